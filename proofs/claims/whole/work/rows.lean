section
-- ===== PART A: goes FIRST, ahead of the names: the tables' words, and 'selects' of the private methods out of them =====
/-- a private method of a class that the tables say can be made, by its rows of tables_1 -/
def lw_okq (q : MethodName × Nat) : Prop := (q.1.cls ≠ "java/lang/invoke/MethodHandle" ∧ q.1.cls ≠ "java/lang/invoke/VarHandle") ∧ Cond.instantiable q.1.cls q.2 ∈ tables_1 ∧ Cond.privateMethod q.1 ∈ tables_1 ∧ Cond.instanceMethod q.1 ∈ tables_1
theorem lw_p0 : lw_okq (⟨"RouterPaths$Machine", "startAnew", "()V"⟩, 8) := ⟨⟨by decide +kernel, by decide +kernel⟩, List.mem_of_getElem? (i := 107) (by decide +kernel), List.mem_of_getElem? (i := 113) (by decide +kernel), List.mem_of_getElem? (i := 114) (by decide +kernel)⟩
theorem lw_p1 : lw_okq (⟨"RouterPaths$Reader", "takeStatement", "(LRouterPaths$Program;)Z"⟩, 4) := ⟨⟨by decide +kernel, by decide +kernel⟩, List.mem_of_getElem? (i := 88) (by decide +kernel), List.mem_of_getElem? (i := 250) (by decide +kernel), List.mem_of_getElem? (i := 251) (by decide +kernel)⟩
theorem lw_p2 : lw_okq (⟨"RouterPaths$Reader", "skipSpaces", "()V"⟩, 4) := ⟨⟨by decide +kernel, by decide +kernel⟩, List.mem_of_getElem? (i := 88) (by decide +kernel), List.mem_of_getElem? (i := 254) (by decide +kernel), List.mem_of_getElem? (i := 255) (by decide +kernel)⟩
theorem lw_p3 : lw_okq (⟨"RouterPaths$Reader", "here", "()I"⟩, 4) := ⟨⟨by decide +kernel, by decide +kernel⟩, List.mem_of_getElem? (i := 88) (by decide +kernel), List.mem_of_getElem? (i := 258) (by decide +kernel), List.mem_of_getElem? (i := 259) (by decide +kernel)⟩
theorem lw_p4 : lw_okq (⟨"RouterPaths$Reader", "takeChange", "(LRouterPaths$Program;)Z"⟩, 4) := ⟨⟨by decide +kernel, by decide +kernel⟩, List.mem_of_getElem? (i := 88) (by decide +kernel), List.mem_of_getElem? (i := 262) (by decide +kernel), List.mem_of_getElem? (i := 263) (by decide +kernel)⟩
theorem lw_p5 : lw_okq (⟨"RouterPaths$Reader", "takeDigit", "(I)I"⟩, 4) := ⟨⟨by decide +kernel, by decide +kernel⟩, List.mem_of_getElem? (i := 88) (by decide +kernel), List.mem_of_getElem? (i := 266) (by decide +kernel), List.mem_of_getElem? (i := 267) (by decide +kernel)⟩
theorem lw_p6 : lw_okq (⟨"RouterPaths$Reader", "takeEnd", "()Z"⟩, 4) := ⟨⟨by decide +kernel, by decide +kernel⟩, List.mem_of_getElem? (i := 88) (by decide +kernel), List.mem_of_getElem? (i := 270) (by decide +kernel), List.mem_of_getElem? (i := 271) (by decide +kernel)⟩
theorem lw_p7 : lw_okq (⟨"RouterPaths$Reader", "takeMove", "(LRouterPaths$Program;)Z"⟩, 4) := ⟨⟨by decide +kernel, by decide +kernel⟩, List.mem_of_getElem? (i := 88) (by decide +kernel), List.mem_of_getElem? (i := 278) (by decide +kernel), List.mem_of_getElem? (i := 279) (by decide +kernel)⟩
theorem lw_p8 : lw_okq (⟨"RouterPaths$Reader", "takeNumber", "(CI)I"⟩, 4) := ⟨⟨by decide +kernel, by decide +kernel⟩, List.mem_of_getElem? (i := 88) (by decide +kernel), List.mem_of_getElem? (i := 282) (by decide +kernel), List.mem_of_getElem? (i := 283) (by decide +kernel)⟩
theorem lw_p9 : lw_okq (⟨"RouterPaths$PieceCounter", "take", "(LRouterPaths$Grid;II)V"⟩, 6) := ⟨⟨by decide +kernel, by decide +kernel⟩, List.mem_of_getElem? (i := 149) (by decide +kernel), List.mem_of_getElem? (i := 294) (by decide +kernel), List.mem_of_getElem? (i := 295) (by decide +kernel)⟩
theorem lw_p10 : lw_okq (⟨"RouterPaths$PieceCounter", "spread", "(LRouterPaths$Grid;I)V"⟩, 6) := ⟨⟨by decide +kernel, by decide +kernel⟩, List.mem_of_getElem? (i := 149) (by decide +kernel), List.mem_of_getElem? (i := 306) (by decide +kernel), List.mem_of_getElem? (i := 307) (by decide +kernel)⟩
theorem lw_p11 : lw_okq (⟨"RouterPaths", "demandBlock", "(IIII)V"⟩, 7) := ⟨⟨by decide +kernel, by decide +kernel⟩, List.mem_of_getElem? (i := 17) (by decide +kernel), List.mem_of_getElem? (i := 330) (by decide +kernel), List.mem_of_getElem? (i := 331) (by decide +kernel)⟩
theorem lw_p12 : lw_okq (⟨"RouterPaths", "demandCell", "(II)V"⟩, 7) := ⟨⟨by decide +kernel, by decide +kernel⟩, List.mem_of_getElem? (i := 17) (by decide +kernel), List.mem_of_getElem? (i := 334) (by decide +kernel), List.mem_of_getElem? (i := 335) (by decide +kernel)⟩
theorem lw_p13 : lw_okq (⟨"java/lang/Throwable", "fillInStackTrace", "(I)Ljava/lang/Throwable;"⟩, 6) := ⟨⟨by decide +kernel, by decide +kernel⟩, List.mem_of_getElem? (i := 377) (by decide +kernel), List.mem_of_getElem? (i := 375) (by decide +kernel), List.mem_of_getElem? (i := 376) (by decide +kernel)⟩
theorem lw_p14 : lw_okq (⟨"RouterPaths$Machine", "obey", "(LRouterPaths$Program;ILRouterPaths$Grid;[LRouterPaths$Tool;)I"⟩, 8) := ⟨⟨by decide +kernel, by decide +kernel⟩, List.mem_of_getElem? (i := 107) (by decide +kernel), List.mem_of_getElem? (i := 488) (by decide +kernel), List.mem_of_getElem? (i := 489) (by decide +kernel)⟩
theorem lw_p15 : lw_okq (⟨"RouterPaths$Machine", "travel", "(IIIZLRouterPaths$Grid;LRouterPaths$Tool;)I"⟩, 8) := ⟨⟨by decide +kernel, by decide +kernel⟩, List.mem_of_getElem? (i := 107) (by decide +kernel), List.mem_of_getElem? (i := 495) (by decide +kernel), List.mem_of_getElem? (i := 496) (by decide +kernel)⟩
def lw_privs_1 : List (MethodName × Nat) := [(⟨"RouterPaths$Machine", "startAnew", "()V"⟩, 8), (⟨"RouterPaths$Reader", "takeStatement", "(LRouterPaths$Program;)Z"⟩, 4), (⟨"RouterPaths$Reader", "skipSpaces", "()V"⟩, 4), (⟨"RouterPaths$Reader", "here", "()I"⟩, 4), (⟨"RouterPaths$Reader", "takeChange", "(LRouterPaths$Program;)Z"⟩, 4), (⟨"RouterPaths$Reader", "takeDigit", "(I)I"⟩, 4), (⟨"RouterPaths$Reader", "takeEnd", "()Z"⟩, 4), (⟨"RouterPaths$Reader", "takeMove", "(LRouterPaths$Program;)Z"⟩, 4), (⟨"RouterPaths$Reader", "takeNumber", "(CI)I"⟩, 4), (⟨"RouterPaths$PieceCounter", "take", "(LRouterPaths$Grid;II)V"⟩, 6), (⟨"RouterPaths$PieceCounter", "spread", "(LRouterPaths$Grid;I)V"⟩, 6), (⟨"RouterPaths", "demandBlock", "(IIII)V"⟩, 7), (⟨"RouterPaths", "demandCell", "(II)V"⟩, 7), (⟨"java/lang/Throwable", "fillInStackTrace", "(I)Ljava/lang/Throwable;"⟩, 6), (⟨"RouterPaths$Machine", "obey", "(LRouterPaths$Program;ILRouterPaths$Grid;[LRouterPaths$Tool;)I"⟩, 8), (⟨"RouterPaths$Machine", "travel", "(IIIZLRouterPaths$Grid;LRouterPaths$Tool;)I"⟩, 8)]
theorem lw_r1 : ∀ q ∈ lw_privs_1, lw_okq q := List.forall_mem_cons.mpr ⟨lw_p0, List.forall_mem_cons.mpr ⟨lw_p1, List.forall_mem_cons.mpr ⟨lw_p2, List.forall_mem_cons.mpr ⟨lw_p3, List.forall_mem_cons.mpr ⟨lw_p4, List.forall_mem_cons.mpr ⟨lw_p5, List.forall_mem_cons.mpr ⟨lw_p6, List.forall_mem_cons.mpr ⟨lw_p7, List.forall_mem_cons.mpr ⟨lw_p8, List.forall_mem_cons.mpr ⟨lw_p9, List.forall_mem_cons.mpr ⟨lw_p10, List.forall_mem_cons.mpr ⟨lw_p11, List.forall_mem_cons.mpr ⟨lw_p12, List.forall_mem_cons.mpr ⟨lw_p13, List.forall_mem_cons.mpr ⟨lw_p14, List.forall_mem_cons.mpr ⟨lw_p15, fun _ h => absurd h List.not_mem_nil⟩⟩⟩⟩⟩⟩⟩⟩⟩⟩⟩⟩⟩⟩⟩⟩
theorem lw_p16 : lw_okq (⟨"RouterPaths$Machine", "cutHere", "(LRouterPaths$Grid;LRouterPaths$Tool;)I"⟩, 8) := ⟨⟨by decide +kernel, by decide +kernel⟩, List.mem_of_getElem? (i := 107) (by decide +kernel), List.mem_of_getElem? (i := 516) (by decide +kernel), List.mem_of_getElem? (i := 517) (by decide +kernel)⟩
theorem lw_p17 : lw_okq (⟨"RouterPaths$Machine", "passHere", "(LRouterPaths$Grid;)I"⟩, 8) := ⟨⟨by decide +kernel, by decide +kernel⟩, List.mem_of_getElem? (i := 107) (by decide +kernel), List.mem_of_getElem? (i := 528) (by decide +kernel), List.mem_of_getElem? (i := 529) (by decide +kernel)⟩
theorem lw_p18 : lw_okq (⟨"RouterPaths$Grid", "isOff", "(IZ)Z"⟩, 8) := ⟨⟨by decide +kernel, by decide +kernel⟩, List.mem_of_getElem? (i := 31) (by decide +kernel), List.mem_of_getElem? (i := 567) (by decide +kernel), List.mem_of_getElem? (i := 568) (by decide +kernel)⟩
theorem lw_p19 : lw_okq (⟨"RouterPaths$Grid", "discHasKept", "()Z"⟩, 8) := ⟨⟨by decide +kernel, by decide +kernel⟩, List.mem_of_getElem? (i := 31) (by decide +kernel), List.mem_of_getElem? (i := 587) (by decide +kernel), List.mem_of_getElem? (i := 588) (by decide +kernel)⟩
theorem lw_p20 : lw_okq (⟨"RouterPaths$Grid", "highestTargetInDisc", "()I"⟩, 8) := ⟨⟨by decide +kernel, by decide +kernel⟩, List.mem_of_getElem? (i := 31) (by decide +kernel), List.mem_of_getElem? (i := 591) (by decide +kernel), List.mem_of_getElem? (i := 592) (by decide +kernel)⟩
theorem lw_p21 : lw_okq (⟨"RouterPaths$Grid", "markReached", "(I)I"⟩, 8) := ⟨⟨by decide +kernel, by decide +kernel⟩, List.mem_of_getElem? (i := 31) (by decide +kernel), List.mem_of_getElem? (i := 595) (by decide +kernel), List.mem_of_getElem? (i := 596) (by decide +kernel)⟩
theorem lw_p22 : lw_okq (⟨"RouterPathsModel", "spanFault", "(IIIIZ)I"⟩, 23) := ⟨⟨by decide +kernel, by decide +kernel⟩, List.mem_of_getElem? (i := 599) (by decide +kernel), List.mem_of_getElem? (i := 686) (by decide +kernel), List.mem_of_getElem? (i := 687) (by decide +kernel)⟩
theorem lw_p23 : lw_okq (⟨"RouterPathsModel", "isCell", "(II)Z"⟩, 23) := ⟨⟨by decide +kernel, by decide +kernel⟩, List.mem_of_getElem? (i := 599) (by decide +kernel), List.mem_of_getElem? (i := 690) (by decide +kernel), List.mem_of_getElem? (i := 691) (by decide +kernel)⟩
theorem lw_p24 : lw_okq (⟨"RouterPathsModel", "spaces", "()V"⟩, 23) := ⟨⟨by decide +kernel, by decide +kernel⟩, List.mem_of_getElem? (i := 599) (by decide +kernel), List.mem_of_getElem? (i := 710) (by decide +kernel), List.mem_of_getElem? (i := 711) (by decide +kernel)⟩
theorem lw_p25 : lw_okq (⟨"RouterPathsModel", "now", "()I"⟩, 23) := ⟨⟨by decide +kernel, by decide +kernel⟩, List.mem_of_getElem? (i := 599) (by decide +kernel), List.mem_of_getElem? (i := 714) (by decide +kernel), List.mem_of_getElem? (i := 715) (by decide +kernel)⟩
theorem lw_p26 : lw_okq (⟨"RouterPathsModel", "statement", "(I)V"⟩, 23) := ⟨⟨by decide +kernel, by decide +kernel⟩, List.mem_of_getElem? (i := 599) (by decide +kernel), List.mem_of_getElem? (i := 718) (by decide +kernel), List.mem_of_getElem? (i := 719) (by decide +kernel)⟩
theorem lw_p27 : lw_okq (⟨"RouterPathsModel", "must", "(Z)V"⟩, 23) := ⟨⟨by decide +kernel, by decide +kernel⟩, List.mem_of_getElem? (i := 599) (by decide +kernel), List.mem_of_getElem? (i := 722) (by decide +kernel), List.mem_of_getElem? (i := 723) (by decide +kernel)⟩
theorem lw_p28 : lw_okq (⟨"RouterPathsModel", "digit", "(I)I"⟩, 23) := ⟨⟨by decide +kernel, by decide +kernel⟩, List.mem_of_getElem? (i := 599) (by decide +kernel), List.mem_of_getElem? (i := 726) (by decide +kernel), List.mem_of_getElem? (i := 727) (by decide +kernel)⟩
theorem lw_p29 : lw_okq (⟨"RouterPathsModel", "number", "(I)I"⟩, 23) := ⟨⟨by decide +kernel, by decide +kernel⟩, List.mem_of_getElem? (i := 599) (by decide +kernel), List.mem_of_getElem? (i := 730) (by decide +kernel), List.mem_of_getElem? (i := 731) (by decide +kernel)⟩
theorem lw_p30 : lw_okq (⟨"RouterPathsModel", "go", "(I)I"⟩, 23) := ⟨⟨by decide +kernel, by decide +kernel⟩, List.mem_of_getElem? (i := 599) (by decide +kernel), List.mem_of_getElem? (i := 738) (by decide +kernel), List.mem_of_getElem? (i := 739) (by decide +kernel)⟩
theorem lw_p31 : lw_okq (⟨"RouterPathsModel", "step", "(IIII)I"⟩, 23) := ⟨⟨by decide +kernel, by decide +kernel⟩, List.mem_of_getElem? (i := 599) (by decide +kernel), List.mem_of_getElem? (i := 745) (by decide +kernel), List.mem_of_getElem? (i := 746) (by decide +kernel)⟩
def lw_privs_2 : List (MethodName × Nat) := [(⟨"RouterPaths$Machine", "cutHere", "(LRouterPaths$Grid;LRouterPaths$Tool;)I"⟩, 8), (⟨"RouterPaths$Machine", "passHere", "(LRouterPaths$Grid;)I"⟩, 8), (⟨"RouterPaths$Grid", "isOff", "(IZ)Z"⟩, 8), (⟨"RouterPaths$Grid", "discHasKept", "()Z"⟩, 8), (⟨"RouterPaths$Grid", "highestTargetInDisc", "()I"⟩, 8), (⟨"RouterPaths$Grid", "markReached", "(I)I"⟩, 8), (⟨"RouterPathsModel", "spanFault", "(IIIIZ)I"⟩, 23), (⟨"RouterPathsModel", "isCell", "(II)Z"⟩, 23), (⟨"RouterPathsModel", "spaces", "()V"⟩, 23), (⟨"RouterPathsModel", "now", "()I"⟩, 23), (⟨"RouterPathsModel", "statement", "(I)V"⟩, 23), (⟨"RouterPathsModel", "must", "(Z)V"⟩, 23), (⟨"RouterPathsModel", "digit", "(I)I"⟩, 23), (⟨"RouterPathsModel", "number", "(I)I"⟩, 23), (⟨"RouterPathsModel", "go", "(I)I"⟩, 23), (⟨"RouterPathsModel", "step", "(IIII)I"⟩, 23)]
theorem lw_r2 : ∀ q ∈ lw_privs_2, lw_okq q := List.forall_mem_cons.mpr ⟨lw_p16, List.forall_mem_cons.mpr ⟨lw_p17, List.forall_mem_cons.mpr ⟨lw_p18, List.forall_mem_cons.mpr ⟨lw_p19, List.forall_mem_cons.mpr ⟨lw_p20, List.forall_mem_cons.mpr ⟨lw_p21, List.forall_mem_cons.mpr ⟨lw_p22, List.forall_mem_cons.mpr ⟨lw_p23, List.forall_mem_cons.mpr ⟨lw_p24, List.forall_mem_cons.mpr ⟨lw_p25, List.forall_mem_cons.mpr ⟨lw_p26, List.forall_mem_cons.mpr ⟨lw_p27, List.forall_mem_cons.mpr ⟨lw_p28, List.forall_mem_cons.mpr ⟨lw_p29, List.forall_mem_cons.mpr ⟨lw_p30, List.forall_mem_cons.mpr ⟨lw_p31, fun _ h => absurd h List.not_mem_nil⟩⟩⟩⟩⟩⟩⟩⟩⟩⟩⟩⟩⟩⟩⟩⟩
theorem lw_p32 : lw_okq (⟨"RouterPathsModel", "isInDisc", "(IIII)Z"⟩, 23) := ⟨⟨by decide +kernel, by decide +kernel⟩, List.mem_of_getElem? (i := 599) (by decide +kernel), List.mem_of_getElem? (i := 749) (by decide +kernel), List.mem_of_getElem? (i := 750) (by decide +kernel)⟩
theorem lw_p33 : lw_okq (⟨"RouterPathsModel", "spares", "(IIII)Z"⟩, 23) := ⟨⟨by decide +kernel, by decide +kernel⟩, List.mem_of_getElem? (i := 599) (by decide +kernel), List.mem_of_getElem? (i := 772) (by decide +kernel), List.mem_of_getElem? (i := 773) (by decide +kernel)⟩
theorem lw_p34 : lw_okq (⟨"RouterPathsModel", "flood", "(I)V"⟩, 23) := ⟨⟨by decide +kernel, by decide +kernel⟩, List.mem_of_getElem? (i := 599) (by decide +kernel), List.mem_of_getElem? (i := 780) (by decide +kernel), List.mem_of_getElem? (i := 781) (by decide +kernel)⟩
def lw_privs_3 : List (MethodName × Nat) := [(⟨"RouterPathsModel", "isInDisc", "(IIII)Z"⟩, 23), (⟨"RouterPathsModel", "spares", "(IIII)Z"⟩, 23), (⟨"RouterPathsModel", "flood", "(I)V"⟩, 23)]
theorem lw_r3 : ∀ q ∈ lw_privs_3, lw_okq q := List.forall_mem_cons.mpr ⟨lw_p32, List.forall_mem_cons.mpr ⟨lw_p33, List.forall_mem_cons.mpr ⟨lw_p34, fun _ h => absurd h List.not_mem_nil⟩⟩⟩
def lw_privs : List (MethodName × Nat) := lw_privs_1 ++ (lw_privs_2 ++ (lw_privs_3))
def lw_tbl : List Cond := k2_sels lw_privs ++ tables_1
theorem lw_privs_ok : ∀ q ∈ lw_privs, lw_okq q := by
  show ∀ q ∈ lw_privs_1 ++ (lw_privs_2 ++ (lw_privs_3)), lw_okq q
  exact List.forall_mem_append.mpr ⟨lw_r1, List.forall_mem_append.mpr ⟨lw_r2, lw_r3⟩⟩

def RX0 : String := "RouterPaths$Grid"
def TX0 : u_T := fun k => match k with
  | 0 => ("RouterPaths$Grid", "side", "I", true)
  | 1 => ("RouterPaths$Grid", "cells", "I", true)
  | 2 => ("RouterPaths$Grid", "heights", "[I", true)
  | 3 => ("RouterPaths$Grid", "targets", "[I", true)
  | 4 => ("RouterPaths$Grid", "kept", "[Z", true)
  | 5 => ("RouterPaths$Grid", "marks", "[Z", true)
  | 6 => ("RouterPaths$Grid", "disc", "[I", true)
  | _ => ("RouterPaths$Grid", "discSize", "I", false)
def tyX0 : Nat → FieldType := fun k => match k with
  | 0 => .int
  | 1 => .int
  | 2 => .array .int
  | 3 => .array .int
  | 4 => .array .boolean
  | 5 => .array .boolean
  | 6 => .array .int
  | _ => .int
theorem nmX0 : ∀ a, a < 8 → ∀ b, b < 8 → a ≠ b → (TX0 a).2.1 ≠ (TX0 b).2.1 := by decide +kernel
theorem tyX0_ok : ∀ k, k < 8 → parseFieldDescriptor (TX0 k).2.2.1 = some (tyX0 k) := by decide +kernel
def RX1 : String := "RouterPaths$Machine"
def TX1 : u_T := fun k => match k with
  | 0 => ("RouterPaths$Machine", "hasRun", "Z", false)
  | 1 => ("RouterPaths$Machine", "time", "I", false)
  | 2 => ("RouterPaths$Machine", "ended", "I", false)
  | 3 => ("RouterPaths$Machine", "x", "I", false)
  | 4 => ("RouterPaths$Machine", "y", "I", false)
  | 5 => ("RouterPaths$Machine", "z", "I", false)
  | 6 => ("RouterPaths$Machine", "cut", "I", false)
  | _ => ("RouterPaths$Machine", "held", "I", false)
def tyX1 : Nat → FieldType := fun k => match k with
  | 0 => .boolean
  | 1 => .int
  | 2 => .int
  | 3 => .int
  | 4 => .int
  | 5 => .int
  | 6 => .int
  | _ => .int
theorem nmX1 : ∀ a, a < 8 → ∀ b, b < 8 → a ≠ b → (TX1 a).2.1 ≠ (TX1 b).2.1 := by decide +kernel
theorem tyX1_ok : ∀ k, k < 8 → parseFieldDescriptor (TX1 k).2.2.1 = some (tyX1 k) := by decide +kernel
def RX2 : String := "RouterPaths$PieceCounter"
def TX2 : u_T := fun k => match k with
  | 0 => ("RouterPaths$PieceCounter", "side", "I", true)
  | 1 => ("RouterPaths$PieceCounter", "cells", "I", true)
  | 2 => ("RouterPaths$PieceCounter", "taken", "[Z", true)
  | 3 => ("RouterPaths$PieceCounter", "queueX", "[I", true)
  | 4 => ("RouterPaths$PieceCounter", "queueY", "[I", true)
  | _ => ("RouterPaths$PieceCounter", "queued", "I", false)
def tyX2 : Nat → FieldType := fun k => match k with
  | 0 => .int
  | 1 => .int
  | 2 => .array .boolean
  | 3 => .array .int
  | 4 => .array .int
  | _ => .int
theorem nmX2 : ∀ a, a < 6 → ∀ b, b < 6 → a ≠ b → (TX2 a).2.1 ≠ (TX2 b).2.1 := by decide +kernel
theorem tyX2_ok : ∀ k, k < 6 → parseFieldDescriptor (TX2 k).2.2.1 = some (tyX2 k) := by decide +kernel
def RX3 : String := "RouterPaths$Program"
def TX3 : u_T := fun k => match k with
  | 0 => ("RouterPaths$Program", "count", "I", false)
  | 1 => ("RouterPaths$Program", "letters", "[C", true)
  | 2 => ("RouterPaths$Program", "digits", "[I", true)
  | 3 => ("RouterPaths$Program", "xs", "[I", true)
  | 4 => ("RouterPaths$Program", "ys", "[I", true)
  | _ => ("RouterPaths$Program", "zs", "[I", true)
def tyX3 : Nat → FieldType := fun k => match k with
  | 0 => .int
  | 1 => .array .char
  | 2 => .array .int
  | 3 => .array .int
  | 4 => .array .int
  | _ => .array .int
theorem nmX3 : ∀ a, a < 6 → ∀ b, b < 6 → a ≠ b → (TX3 a).2.1 ≠ (TX3 b).2.1 := by decide +kernel
theorem tyX3_ok : ∀ k, k < 6 → parseFieldDescriptor (TX3 k).2.2.1 = some (tyX3 k) := by decide +kernel
def RX4 : String := "RouterPaths$Reader"
def TX4 : u_T := fun k => match k with
  | 0 => ("RouterPaths$Reader", "side", "I", true)
  | 1 => ("RouterPaths$Reader", "text", "[I", true)
  | 2 => ("RouterPaths$Reader", "length", "I", false)
  | _ => ("RouterPaths$Reader", "place", "I", false)
def tyX4 : Nat → FieldType := fun k => match k with
  | 0 => .int
  | 1 => .array .int
  | 2 => .int
  | _ => .int
theorem nmX4 : ∀ a, a < 4 → ∀ b, b < 4 → a ≠ b → (TX4 a).2.1 ≠ (TX4 b).2.1 := by decide +kernel
theorem tyX4_ok : ∀ k, k < 4 → parseFieldDescriptor (TX4 k).2.2.1 = some (tyX4 k) := by decide +kernel
def RX5 : String := "RouterPaths$Tool"
def TX5 : u_T := fun k => match k with
  | 0 => ("RouterPaths$Tool", "radius", "I", false)
  | 1 => ("RouterPaths$Tool", "feed", "I", false)
  | _ => ("RouterPaths$Tool", "halfWidths", "[I", true)
def tyX5 : Nat → FieldType := fun k => match k with
  | 0 => .int
  | 1 => .int
  | _ => .array .int
theorem nmX5 : ∀ a, a < 3 → ∀ b, b < 3 → a ≠ b → (TX5 a).2.1 ≠ (TX5 b).2.1 := by decide +kernel
theorem tyX5_ok : ∀ k, k < 3 → parseFieldDescriptor (TX5 k).2.2.1 = some (tyX5 k) := by decide +kernel
def RX6 : String := "RouterPaths"
def TX6 : u_T := fun k => match k with
  | 0 => ("RouterPaths", "grid", "LRouterPaths$Grid;", true)
  | 1 => ("RouterPaths", "tools", "[LRouterPaths$Tool;", true)
  | 2 => ("RouterPaths", "reader", "LRouterPaths$Reader;", true)
  | 3 => ("RouterPaths", "machine", "LRouterPaths$Machine;", true)
  | 4 => ("RouterPaths", "pieceCounter", "LRouterPaths$PieceCounter;", true)
  | 5 => ("RouterPaths", "program", "LRouterPaths$Program;", false)
  | _ => ("RouterPaths", "draft", "LRouterPaths$Program;", false)
def tyX6 : Nat → FieldType := fun k => match k with
  | 0 => .object "RouterPaths$Grid"
  | 1 => .array (.object "RouterPaths$Tool")
  | 2 => .object "RouterPaths$Reader"
  | 3 => .object "RouterPaths$Machine"
  | 4 => .object "RouterPaths$PieceCounter"
  | 5 => .object "RouterPaths$Program"
  | _ => .object "RouterPaths$Program"
theorem nmX6 : ∀ a, a < 7 → ∀ b, b < 7 → a ≠ b → (TX6 a).2.1 ≠ (TX6 b).2.1 := by decide +kernel
theorem tyX6_ok : ∀ k, k < 7 → parseFieldDescriptor (TX6 k).2.2.1 = some (tyX6 k) := by decide +kernel
def RX7 : String := "RouterPathsModel"
def TX7 : u_T := fun k => match k with
  | 0 => ("RouterPathsModel", "thrown", "I", false)
  | 1 => ("RouterPathsModel", "side", "I", false)
  | 2 => ("RouterPathsModel", "heights", "[I", true)
  | 3 => ("RouterPathsModel", "targets", "[I", true)
  | 4 => ("RouterPathsModel", "kept", "[Z", true)
  | 5 => ("RouterPathsModel", "radius", "[I", true)
  | 6 => ("RouterPathsModel", "feeds", "[I", true)
  | 7 => ("RouterPathsModel", "text", "[I", true)
  | 8 => ("RouterPathsModel", "size", "I", false)
  | 9 => ("RouterPathsModel", "at", "I", false)
  | 10 => ("RouterPathsModel", "fault", "I", false)
  | 11 => ("RouterPathsModel", "program", "[I", true)
  | 12 => ("RouterPathsModel", "draft", "[I", true)
  | 13 => ("RouterPathsModel", "statements", "I", false)
  | 14 => ("RouterPathsModel", "hasProgram", "Z", false)
  | 15 => ("RouterPathsModel", "hasRun", "Z", false)
  | 16 => ("RouterPathsModel", "where", "[I", true)
  | 17 => ("RouterPathsModel", "tool", "I", false)
  | 18 => ("RouterPathsModel", "about", "[I", true)
  | 19 => ("RouterPathsModel", "stack", "[I", true)
  | 20 => ("RouterPathsModel", "seen", "[Z", true)
  | 21 => ("RouterPathsModel", "begin", "[I", true)
  | _ => ("RouterPathsModel", "gap", "[I", true)
def tyX7 : Nat → FieldType := fun k => match k with
  | 0 => .int
  | 1 => .int
  | 2 => .array .int
  | 3 => .array .int
  | 4 => .array .boolean
  | 5 => .array .int
  | 6 => .array .int
  | 7 => .array .int
  | 8 => .int
  | 9 => .int
  | 10 => .int
  | 11 => .array .int
  | 12 => .array .int
  | 13 => .int
  | 14 => .boolean
  | 15 => .boolean
  | 16 => .array .int
  | 17 => .int
  | 18 => .array .int
  | 19 => .array .int
  | 20 => .array .boolean
  | 21 => .array .int
  | _ => .array .int
theorem nmX7 : ∀ a, a < 23 → ∀ b, b < 23 → a ≠ b → (TX7 a).2.1 ≠ (TX7 b).2.1 := by decide +kernel
theorem tyX7_ok : ∀ k, k < 23 → parseFieldDescriptor (TX7 k).2.2.1 = some (tyX7 k) := by decide +kernel
def RL : String := "RouterPathsLaw"
def RJm : String := "java/lang/Math"
abbrev cX6_init : ByteArray := prog_1_method_1_code
def yX6_init : MethodName := ⟨RX6, "<init>", "(I)V"⟩
abbrev cX6_target : ByteArray := prog_1_method_2_code
def yX6_target : MethodName := ⟨RX6, "target", "(IIIII)V"⟩
abbrev cX6_keep : ByteArray := prog_1_method_3_code
def yX6_keep : MethodName := ⟨RX6, "keep", "(IIIIZ)V"⟩
abbrev cX6_tool : ByteArray := prog_1_method_4_code
def yX6_tool : MethodName := ⟨RX6, "tool", "(III)V"⟩
abbrev cX6_unit : ByteArray := prog_1_method_5_code
def yX6_unit : MethodName := ⟨RX6, "unit", "(I)Z"⟩
abbrev cX6_read : ByteArray := prog_1_method_6_code
def yX6_read : MethodName := ⟨RX6, "read", "()I"⟩
abbrev cX6_run : ByteArray := prog_1_method_7_code
def yX6_run : MethodName := ⟨RX6, "run", "()I"⟩
abbrev cX6_about : ByteArray := prog_1_method_8_code
def yX6_about : MethodName := ⟨RX6, "about", "(I)I"⟩
abbrev cX6_cell : ByteArray := prog_1_method_9_code
def yX6_cell : MethodName := ⟨RX6, "cell", "(III)I"⟩
abbrev cX6_check : ByteArray := prog_1_method_10_code
def yX6_check : MethodName := ⟨RX6, "check", "(I)I"⟩
abbrev cX6_reached : ByteArray := prog_1_method_11_code
def yX6_reached : MethodName := ⟨RX6, "reached", "(I)I"⟩
abbrev cX6_pieces : ByteArray := prog_1_method_12_code
def yX6_pieces : MethodName := ⟨RX6, "pieces", "()I"⟩
abbrev cX6_blank : ByteArray := prog_1_method_13_code
def yX6_blank : MethodName := ⟨RX6, "blank", "()V"⟩
abbrev cX6_demandBlock : ByteArray := prog_1_method_14_code
def yX6_demandBlock : MethodName := ⟨RX6, "demandBlock", "(IIII)V"⟩
abbrev cX6_demandCell : ByteArray := prog_1_method_15_code
def yX6_demandCell : MethodName := ⟨RX6, "demandCell", "(II)V"⟩
abbrev cX6_demandTool : ByteArray := prog_1_method_16_code
def yX6_demandTool : MethodName := ⟨RX6, "demandTool", "(I)V"⟩
abbrev cX6_demandWhat : ByteArray := prog_1_method_17_code
def yX6_demandWhat : MethodName := ⟨RX6, "demandWhat", "(II)V"⟩
abbrev cX7_init : ByteArray := prog_9_method_1_code
def yX7_init : MethodName := ⟨RX7, "<init>", "(I)V"⟩
abbrev cX7_thrown : ByteArray := prog_9_method_2_code
def yX7_thrown : MethodName := ⟨RX7, "thrown", "()I"⟩
abbrev cX7_isIn : ByteArray := prog_9_method_3_code
def yX7_isIn : MethodName := ⟨RX7, "isIn", "(III)Z"⟩
abbrev cX7_isCell : ByteArray := prog_9_method_4_code
def yX7_isCell : MethodName := ⟨RX7, "isCell", "(II)Z"⟩
abbrev cX7_spanFault : ByteArray := prog_9_method_5_code
def yX7_spanFault : MethodName := ⟨RX7, "spanFault", "(IIIIZ)I"⟩
abbrev cX7_target : ByteArray := prog_9_method_6_code
def yX7_target : MethodName := ⟨RX7, "target", "(IIIII)V"⟩
abbrev cX7_keep : ByteArray := prog_9_method_7_code
def yX7_keep : MethodName := ⟨RX7, "keep", "(IIIIZ)V"⟩
abbrev cX7_tool : ByteArray := prog_9_method_8_code
def yX7_tool : MethodName := ⟨RX7, "tool", "(III)V"⟩
abbrev cX7_unit : ByteArray := prog_9_method_9_code
def yX7_unit : MethodName := ⟨RX7, "unit", "(I)Z"⟩
abbrev cX7_now : ByteArray := prog_9_method_10_code
def yX7_now : MethodName := ⟨RX7, "now", "()I"⟩
abbrev cX7_must : ByteArray := prog_9_method_11_code
def yX7_must : MethodName := ⟨RX7, "must", "(Z)V"⟩
abbrev cX7_spaces : ByteArray := prog_9_method_12_code
def yX7_spaces : MethodName := ⟨RX7, "spaces", "()V"⟩
abbrev cX7_digit : ByteArray := prog_9_method_13_code
def yX7_digit : MethodName := ⟨RX7, "digit", "(I)I"⟩
abbrev cX7_number : ByteArray := prog_9_method_14_code
def yX7_number : MethodName := ⟨RX7, "number", "(I)I"⟩
abbrev cX7_statement : ByteArray := prog_9_method_15_code
def yX7_statement : MethodName := ⟨RX7, "statement", "(I)V"⟩
abbrev cX7_read : ByteArray := prog_9_method_16_code
def yX7_read : MethodName := ⟨RX7, "read", "()I"⟩
abbrev cX7_isNear : ByteArray := prog_9_method_17_code
def yX7_isNear : MethodName := ⟨RX7, "isNear", "(III)Z"⟩
abbrev cX7_isInDisc : ByteArray := prog_9_method_18_code
def yX7_isInDisc : MethodName := ⟨RX7, "isInDisc", "(IIII)Z"⟩
abbrev cX7_floor : ByteArray := prog_9_method_19_code
def yX7_floor : MethodName := ⟨RX7, "floor", "(II)I"⟩
abbrev cX7_step : ByteArray := prog_9_method_20_code
def yX7_step : MethodName := ⟨RX7, "step", "(IIII)I"⟩
abbrev cX7_go : ByteArray := prog_9_method_21_code
def yX7_go : MethodName := ⟨RX7, "go", "(I)I"⟩
abbrev cX7_run : ByteArray := prog_9_method_22_code
def yX7_run : MethodName := ⟨RX7, "run", "()I"⟩
abbrev cX7_about : ByteArray := prog_9_method_23_code
def yX7_about : MethodName := ⟨RX7, "about", "(I)I"⟩
abbrev cX7_cell : ByteArray := prog_9_method_24_code
def yX7_cell : MethodName := ⟨RX7, "cell", "(III)I"⟩
abbrev cX7_check : ByteArray := prog_9_method_25_code
def yX7_check : MethodName := ⟨RX7, "check", "(I)I"⟩
abbrev cX7_spares : ByteArray := prog_9_method_26_code
def yX7_spares : MethodName := ⟨RX7, "spares", "(IIII)Z"⟩
abbrev cX7_reached : ByteArray := prog_9_method_27_code
def yX7_reached : MethodName := ⟨RX7, "reached", "(I)I"⟩
abbrev cX7_pieces : ByteArray := prog_9_method_28_code
def yX7_pieces : MethodName := ⟨RX7, "pieces", "()I"⟩
abbrev cX7_flood : ByteArray := prog_9_method_29_code
def yX7_flood : MethodName := ⟨RX7, "flood", "(I)V"⟩
abbrev cX7_blank : ByteArray := prog_9_method_30_code
def yX7_blank : MethodName := ⟨RX7, "blank", "()V"⟩
abbrev cX0_init : ByteArray := prog_2_method_1_code
def yX0_init : MethodName := ⟨RX0, "<init>", "(I)V"⟩
abbrev cX0_holds : ByteArray := prog_2_method_2_code
def yX0_holds : MethodName := ⟨RX0, "holds", "(II)Z"⟩
abbrev cX0_placeOf : ByteArray := prog_2_method_3_code
def yX0_placeOf : MethodName := ⟨RX0, "placeOf", "(II)I"⟩
abbrev cX0_aimBlock : ByteArray := prog_2_method_4_code
def yX0_aimBlock : MethodName := ⟨RX0, "aimBlock", "(IIIII)V"⟩
abbrev cX0_guardBlock : ByteArray := prog_2_method_5_code
def yX0_guardBlock : MethodName := ⟨RX0, "guardBlock", "(IIIIZ)V"⟩
abbrev cX0_fillUp : ByteArray := prog_2_method_6_code
def yX0_fillUp : MethodName := ⟨RX0, "fillUp", "()V"⟩
abbrev cX0_isOff : ByteArray := prog_2_method_7_code
def yX0_isOff : MethodName := ⟨RX0, "isOff", "(IZ)Z"⟩
abbrev cX0_countOff : ByteArray := prog_2_method_8_code
def yX0_countOff : MethodName := ⟨RX0, "countOff", "(Z)I"⟩
abbrev cX0_firstOff : ByteArray := prog_2_method_9_code
def yX0_firstOff : MethodName := ⟨RX0, "firstOff", "(Z)I"⟩
abbrev cX0_layDisc : ByteArray := prog_2_method_10_code
def yX0_layDisc : MethodName := ⟨RX0, "layDisc", "(LRouterPaths$Tool;II)V"⟩
abbrev cX0_discRisesAbove : ByteArray := prog_2_method_11_code
def yX0_discRisesAbove : MethodName := ⟨RX0, "discRisesAbove", "(I)Z"⟩
abbrev cX0_discHasKeptAbove : ByteArray := prog_2_method_12_code
def yX0_discHasKeptAbove : MethodName := ⟨RX0, "discHasKeptAbove", "(I)Z"⟩
abbrev cX0_lowerDisc : ByteArray := prog_2_method_13_code
def yX0_lowerDisc : MethodName := ⟨RX0, "lowerDisc", "(I)I"⟩
abbrev cX0_countReached : ByteArray := prog_2_method_14_code
def yX0_countReached : MethodName := ⟨RX0, "countReached", "(LRouterPaths$Tool;)I"⟩
abbrev cX0_discHasKept : ByteArray := prog_2_method_15_code
def yX0_discHasKept : MethodName := ⟨RX0, "discHasKept", "()Z"⟩
abbrev cX0_highestTargetInDisc : ByteArray := prog_2_method_16_code
def yX0_highestTargetInDisc : MethodName := ⟨RX0, "highestTargetInDisc", "()I"⟩
abbrev cX0_markReached : ByteArray := prog_2_method_17_code
def yX0_markReached : MethodName := ⟨RX0, "markReached", "(I)I"⟩
abbrev cX1_init : ByteArray := prog_3_method_1_code
def yX1_init : MethodName := ⟨RX1, "<init>", "()V"⟩
abbrev cX1_startAnew : ByteArray := prog_3_method_2_code
def yX1_startAnew : MethodName := ⟨RX1, "startAnew", "()V"⟩
abbrev cX1_follow : ByteArray := prog_3_method_3_code
def yX1_follow : MethodName := ⟨RX1, "follow", "(LRouterPaths$Program;LRouterPaths$Grid;[LRouterPaths$Tool;)I"⟩
abbrev cX1_obey : ByteArray := prog_3_method_4_code
def yX1_obey : MethodName := ⟨RX1, "obey", "(LRouterPaths$Program;ILRouterPaths$Grid;[LRouterPaths$Tool;)I"⟩
abbrev cX1_difference : ByteArray := prog_3_method_5_code
def yX1_difference : MethodName := ⟨RX1, "difference", "(II)I"⟩
abbrev cX1_travel : ByteArray := prog_3_method_6_code
def yX1_travel : MethodName := ⟨RX1, "travel", "(IIIZLRouterPaths$Grid;LRouterPaths$Tool;)I"⟩
abbrev cX1_along : ByteArray := prog_3_method_7_code
def yX1_along : MethodName := ⟨RX1, "along", "(IIII)I"⟩
abbrev cX1_cutHere : ByteArray := prog_3_method_8_code
def yX1_cutHere : MethodName := ⟨RX1, "cutHere", "(LRouterPaths$Grid;LRouterPaths$Tool;)I"⟩
abbrev cX1_passHere : ByteArray := prog_3_method_9_code
def yX1_passHere : MethodName := ⟨RX1, "passHere", "(LRouterPaths$Grid;)I"⟩
abbrev cX2_init : ByteArray := prog_4_method_1_code
def yX2_init : MethodName := ⟨RX2, "<init>", "(I)V"⟩
abbrev cX2_count : ByteArray := prog_4_method_2_code
def yX2_count : MethodName := ⟨RX2, "count", "(LRouterPaths$Grid;)I"⟩
abbrev cX2_spread : ByteArray := prog_4_method_3_code
def yX2_spread : MethodName := ⟨RX2, "spread", "(LRouterPaths$Grid;I)V"⟩
abbrev cX2_take : ByteArray := prog_4_method_4_code
def yX2_take : MethodName := ⟨RX2, "take", "(LRouterPaths$Grid;II)V"⟩
abbrev cX3_init : ByteArray := prog_5_method_1_code
def yX3_init : MethodName := ⟨RX3, "<init>", "()V"⟩
abbrev cX3_clear : ByteArray := prog_5_method_2_code
def yX3_clear : MethodName := ⟨RX3, "clear", "()V"⟩
abbrev cX3_add : ByteArray := prog_5_method_3_code
def yX3_add : MethodName := ⟨RX3, "add", "(CIIII)V"⟩
abbrev cX4_init : ByteArray := prog_6_method_1_code
def yX4_init : MethodName := ⟨RX4, "<init>", "(I)V"⟩
abbrev cX4_append : ByteArray := prog_6_method_2_code
def yX4_append : MethodName := ⟨RX4, "append", "(I)Z"⟩
abbrev cX4_parse : ByteArray := prog_6_method_3_code
def yX4_parse : MethodName := ⟨RX4, "parse", "(LRouterPaths$Program;)I"⟩
abbrev cX4_takeStatement : ByteArray := prog_6_method_4_code
def yX4_takeStatement : MethodName := ⟨RX4, "takeStatement", "(LRouterPaths$Program;)Z"⟩
abbrev cX4_takeChange : ByteArray := prog_6_method_5_code
def yX4_takeChange : MethodName := ⟨RX4, "takeChange", "(LRouterPaths$Program;)Z"⟩
abbrev cX4_takeMove : ByteArray := prog_6_method_6_code
def yX4_takeMove : MethodName := ⟨RX4, "takeMove", "(LRouterPaths$Program;)Z"⟩
abbrev cX4_takeDigit : ByteArray := prog_6_method_7_code
def yX4_takeDigit : MethodName := ⟨RX4, "takeDigit", "(I)I"⟩
abbrev cX4_takeNumber : ByteArray := prog_6_method_8_code
def yX4_takeNumber : MethodName := ⟨RX4, "takeNumber", "(CI)I"⟩
abbrev cX4_takeEnd : ByteArray := prog_6_method_9_code
def yX4_takeEnd : MethodName := ⟨RX4, "takeEnd", "()Z"⟩
abbrev cX4_skipSpaces : ByteArray := prog_6_method_10_code
def yX4_skipSpaces : MethodName := ⟨RX4, "skipSpaces", "()V"⟩
abbrev cX4_here : ByteArray := prog_6_method_11_code
def yX4_here : MethodName := ⟨RX4, "here", "()I"⟩
abbrev cX5_init : ByteArray := prog_7_method_1_code
def yX5_init : MethodName := ⟨RX5, "<init>", "()V"⟩
abbrev cX5_become : ByteArray := prog_7_method_2_code
def yX5_become : MethodName := ⟨RX5, "become", "(II)V"⟩
abbrev cX5_halfWidthAt : ByteArray := prog_7_method_3_code
def yX5_halfWidthAt : MethodName := ⟨RX5, "halfWidthAt", "(II)I"⟩
abbrev cL_cell1 : ByteArray := method_2_code
def yL_cell1 : MethodName := ⟨RL, "cell", "([II)I"⟩
abbrev cL_target : ByteArray := method_3_code
def yL_target : MethodName := ⟨RL, "target", "(LRouterPaths;IIIII)I"⟩
abbrev cL_keep : ByteArray := method_4_code
def yL_keep : MethodName := ⟨RL, "keep", "(LRouterPaths;IIIIZ)I"⟩
abbrev cL_tool : ByteArray := method_5_code
def yL_tool : MethodName := ⟨RL, "tool", "(LRouterPaths;III)I"⟩
abbrev cL_run : ByteArray := method_6_code
def yL_run : MethodName := ⟨RL, "run", "(LRouterPaths;[J)I"⟩
abbrev cL_about : ByteArray := method_7_code
def yL_about : MethodName := ⟨RL, "about", "(LRouterPaths;I[J)I"⟩
abbrev cL_cell2 : ByteArray := method_8_code
def yL_cell2 : MethodName := ⟨RL, "cell", "(LRouterPaths;III[J)I"⟩
abbrev cL_check : ByteArray := method_9_code
def yL_check : MethodName := ⟨RL, "check", "(LRouterPaths;I[J)I"⟩
abbrev cL_reached : ByteArray := method_10_code
def yL_reached : MethodName := ⟨RL, "reached", "(LRouterPaths;I[J)I"⟩
abbrev cJm_abs : ByteArray := prog_14_method_59_code
def yJm_abs : MethodName := ⟨RJm, "abs", "(I)I"⟩
abbrev cJm_floorDiv : ByteArray := prog_14_method_47_code
def yJm_floorDiv : MethodName := ⟨RJm, "floorDiv", "(II)I"⟩
abbrev cJm_max : ByteArray := prog_14_method_65_code
def yJm_max : MethodName := ⟨RJm, "max", "(II)I"⟩
abbrev cJm_min : ByteArray := prog_14_method_69_code
def yJm_min : MethodName := ⟨RJm, "min", "(II)I"⟩
abbrev vwCl : List vw_C := [(RX0, TX0, 8), (RX1, TX1, 8), (RX2, TX2, 6), (RX3, TX3, 6), (RX4, TX4, 4), (RX5, TX5, 3), (RX6, TX6, 7), (RX7, TX7, 23)]
def tblG : List Cond := lw_tbl.filter goodWord
abbrev tys (cA : Nat → ClassId) : List (ClassId × FieldType) := [(cA 0, .int), (cA 1, .boolean), (cA 2, .char), (cA 3, .long), (cA 4, .object "RouterPaths$Tool")]
theorem tblG_good : ∀ w ∈ tblG, (w.onTables && w.keeps) = true ∨ ∃ ty, w = .arrayClass ty := fun w h => good_of_word (List.mem_filter.mp h).2
theorem inX0 : ∀ w ∈ u_ws RX0 TX0 8, w ∈ tblG := fun w h => List.mem_filter.mpr ⟨(by decide +kernel : ∀ w ∈ u_ws RX0 TX0 8, w ∈ lw_tbl) w h, (by decide +kernel : ∀ w ∈ u_ws RX0 TX0 8, goodWord w = true) w h⟩
theorem inX1 : ∀ w ∈ u_ws RX1 TX1 8, w ∈ tblG := fun w h => List.mem_filter.mpr ⟨(by decide +kernel : ∀ w ∈ u_ws RX1 TX1 8, w ∈ lw_tbl) w h, (by decide +kernel : ∀ w ∈ u_ws RX1 TX1 8, goodWord w = true) w h⟩
theorem inX2 : ∀ w ∈ u_ws RX2 TX2 6, w ∈ tblG := fun w h => List.mem_filter.mpr ⟨(by decide +kernel : ∀ w ∈ u_ws RX2 TX2 6, w ∈ lw_tbl) w h, (by decide +kernel : ∀ w ∈ u_ws RX2 TX2 6, goodWord w = true) w h⟩
theorem inX3 : ∀ w ∈ u_ws RX3 TX3 6, w ∈ tblG := fun w h => List.mem_filter.mpr ⟨(by decide +kernel : ∀ w ∈ u_ws RX3 TX3 6, w ∈ lw_tbl) w h, (by decide +kernel : ∀ w ∈ u_ws RX3 TX3 6, goodWord w = true) w h⟩
theorem inX4 : ∀ w ∈ u_ws RX4 TX4 4, w ∈ tblG := fun w h => List.mem_filter.mpr ⟨(by decide +kernel : ∀ w ∈ u_ws RX4 TX4 4, w ∈ lw_tbl) w h, (by decide +kernel : ∀ w ∈ u_ws RX4 TX4 4, goodWord w = true) w h⟩
theorem inX5 : ∀ w ∈ u_ws RX5 TX5 3, w ∈ tblG := fun w h => List.mem_filter.mpr ⟨(by decide +kernel : ∀ w ∈ u_ws RX5 TX5 3, w ∈ lw_tbl) w h, (by decide +kernel : ∀ w ∈ u_ws RX5 TX5 3, goodWord w = true) w h⟩
theorem inX6 : ∀ w ∈ u_ws RX6 TX6 7, w ∈ tblG := fun w h => List.mem_filter.mpr ⟨(by decide +kernel : ∀ w ∈ u_ws RX6 TX6 7, w ∈ lw_tbl) w h, (by decide +kernel : ∀ w ∈ u_ws RX6 TX6 7, goodWord w = true) w h⟩
theorem inX7 : ∀ w ∈ u_ws RX7 TX7 23, w ∈ tblG := fun w h => List.mem_filter.mpr ⟨(by decide +kernel : ∀ w ∈ u_ws RX7 TX7 23, w ∈ lw_tbl) w h, (by decide +kernel : ∀ w ∈ u_ws RX7 TX7 23, goodWord w = true) w h⟩
end
section
theorem dX0_init_0 : decode cX0_init 0 = .ok (.aload_n 0, 1) := by decide +kernel
theorem dX0_init_1 : decode cX0_init 1 = .ok (.invokespecial 3, 3) := by decide +kernel
theorem dX0_init_4 : decode cX0_init 4 = .ok (.aload_n 0, 1) := by decide +kernel
theorem dX0_init_5 : decode cX0_init 5 = .ok (.iload_n 1, 1) := by decide +kernel
theorem dX0_init_6 : decode cX0_init 6 = .ok (.putfield 9, 3) := by decide +kernel
theorem dX0_init_9 : decode cX0_init 9 = .ok (.aload_n 0, 1) := by decide +kernel
theorem dX0_init_10 : decode cX0_init 10 = .ok (.iload_n 1, 1) := by decide +kernel
theorem dX0_init_11 : decode cX0_init 11 = .ok (.iload_n 1, 1) := by decide +kernel
theorem dX0_init_12 : decode cX0_init 12 = .ok (.imul, 1) := by decide +kernel
theorem dX0_init_13 : decode cX0_init 13 = .ok (.putfield 15, 3) := by decide +kernel
theorem dX0_init_16 : decode cX0_init 16 = .ok (.aload_n 0, 1) := by decide +kernel
theorem dX0_init_17 : decode cX0_init 17 = .ok (.aload_n 0, 1) := by decide +kernel
theorem dX0_init_18 : decode cX0_init 18 = .ok (.getfield 15, 3) := by decide +kernel
theorem dX0_init_21 : decode cX0_init 21 = .ok (.newarray .int, 2) := by decide +kernel
theorem dX0_init_23 : decode cX0_init 23 = .ok (.putfield 18, 3) := by decide +kernel
theorem dX0_init_26 : decode cX0_init 26 = .ok (.aload_n 0, 1) := by decide +kernel
theorem dX0_init_27 : decode cX0_init 27 = .ok (.aload_n 0, 1) := by decide +kernel
theorem dX0_init_28 : decode cX0_init 28 = .ok (.getfield 15, 3) := by decide +kernel
theorem dX0_init_31 : decode cX0_init 31 = .ok (.newarray .int, 2) := by decide +kernel
theorem dX0_init_33 : decode cX0_init 33 = .ok (.putfield 22, 3) := by decide +kernel
theorem dX0_init_36 : decode cX0_init 36 = .ok (.iconst 0, 1) := by decide +kernel
theorem dX0_init_37 : decode cX0_init 37 = .ok (.istore_n 2, 1) := by decide +kernel
theorem dX0_init_38 : decode cX0_init 38 = .ok (.iload_n 2, 1) := by decide +kernel
theorem dX0_init_39 : decode cX0_init 39 = .ok (.aload_n 0, 1) := by decide +kernel
theorem dX0_init_40 : decode cX0_init 40 = .ok (.getfield 15, 3) := by decide +kernel
theorem dX0_init_43 : decode cX0_init 43 = .ok (.if_icmp .ge 25, 3) := by decide +kernel
theorem dX0_init_46 : decode cX0_init 46 = .ok (.aload_n 0, 1) := by decide +kernel
theorem dX0_init_47 : decode cX0_init 47 = .ok (.getfield 18, 3) := by decide +kernel
theorem dX0_init_50 : decode cX0_init 50 = .ok (.iload_n 2, 1) := by decide +kernel
theorem dX0_init_51 : decode cX0_init 51 = .ok (.bipush 100, 2) := by decide +kernel
theorem dX0_init_53 : decode cX0_init 53 = .ok (.iastore, 1) := by decide +kernel
theorem dX0_init_54 : decode cX0_init 54 = .ok (.aload_n 0, 1) := by decide +kernel
theorem dX0_init_55 : decode cX0_init 55 = .ok (.getfield 22, 3) := by decide +kernel
theorem dX0_init_58 : decode cX0_init 58 = .ok (.iload_n 2, 1) := by decide +kernel
theorem dX0_init_59 : decode cX0_init 59 = .ok (.bipush 100, 2) := by decide +kernel
theorem dX0_init_61 : decode cX0_init 61 = .ok (.iastore, 1) := by decide +kernel
theorem dX0_init_62 : decode cX0_init 62 = .ok (.iinc 2 1, 3) := by decide +kernel
theorem dX0_init_65 : decode cX0_init 65 = .ok (.goto (-27), 3) := by decide +kernel
theorem dX0_init_68 : decode cX0_init 68 = .ok (.aload_n 0, 1) := by decide +kernel
theorem dX0_init_69 : decode cX0_init 69 = .ok (.aload_n 0, 1) := by decide +kernel
theorem dX0_init_70 : decode cX0_init 70 = .ok (.getfield 15, 3) := by decide +kernel
theorem dX0_init_73 : decode cX0_init 73 = .ok (.newarray .boolean, 2) := by decide +kernel
theorem dX0_init_75 : decode cX0_init 75 = .ok (.putfield 25, 3) := by decide +kernel
theorem dX0_init_78 : decode cX0_init 78 = .ok (.aload_n 0, 1) := by decide +kernel
theorem dX0_init_79 : decode cX0_init 79 = .ok (.aload_n 0, 1) := by decide +kernel
theorem dX0_init_80 : decode cX0_init 80 = .ok (.getfield 15, 3) := by decide +kernel
theorem dX0_init_83 : decode cX0_init 83 = .ok (.newarray .boolean, 2) := by decide +kernel
theorem dX0_init_85 : decode cX0_init 85 = .ok (.putfield 29, 3) := by decide +kernel
theorem dX0_init_88 : decode cX0_init 88 = .ok (.aload_n 0, 1) := by decide +kernel
theorem dX0_init_89 : decode cX0_init 89 = .ok (.aload_n 0, 1) := by decide +kernel
theorem dX0_init_90 : decode cX0_init 90 = .ok (.getfield 15, 3) := by decide +kernel
theorem dX0_init_93 : decode cX0_init 93 = .ok (.newarray .int, 2) := by decide +kernel
theorem dX0_init_95 : decode cX0_init 95 = .ok (.putfield 32, 3) := by decide +kernel
theorem dX0_init_98 : decode cX0_init 98 = .ok (.aload_n 0, 1) := by decide +kernel
theorem dX0_init_99 : decode cX0_init 99 = .ok (.iconst 0, 1) := by decide +kernel
theorem dX0_init_100 : decode cX0_init 100 = .ok (.putfield 35, 3) := by decide +kernel
theorem dX0_init_103 : decode cX0_init 103 = .ok (.return_, 1) := by decide +kernel
theorem dX0_holds_0 : decode cX0_holds 0 = .ok (.iload_n 1, 1) := by decide +kernel
theorem dX0_holds_1 : decode cX0_holds 1 = .ok (.ifCond .lt 27, 3) := by decide +kernel
theorem dX0_holds_4 : decode cX0_holds 4 = .ok (.iload_n 1, 1) := by decide +kernel
theorem dX0_holds_5 : decode cX0_holds 5 = .ok (.aload_n 0, 1) := by decide +kernel
theorem dX0_holds_6 : decode cX0_holds 6 = .ok (.getfield 9, 3) := by decide +kernel
theorem dX0_holds_9 : decode cX0_holds 9 = .ok (.if_icmp .ge 19, 3) := by decide +kernel
theorem dX0_holds_12 : decode cX0_holds 12 = .ok (.iload_n 2, 1) := by decide +kernel
theorem dX0_holds_13 : decode cX0_holds 13 = .ok (.ifCond .lt 15, 3) := by decide +kernel
theorem dX0_holds_16 : decode cX0_holds 16 = .ok (.iload_n 2, 1) := by decide +kernel
theorem dX0_holds_17 : decode cX0_holds 17 = .ok (.aload_n 0, 1) := by decide +kernel
theorem dX0_holds_18 : decode cX0_holds 18 = .ok (.getfield 9, 3) := by decide +kernel
theorem dX0_holds_21 : decode cX0_holds 21 = .ok (.if_icmp .ge 7, 3) := by decide +kernel
theorem dX0_holds_24 : decode cX0_holds 24 = .ok (.iconst 1, 1) := by decide +kernel
theorem dX0_holds_25 : decode cX0_holds 25 = .ok (.goto 4, 3) := by decide +kernel
theorem dX0_holds_28 : decode cX0_holds 28 = .ok (.iconst 0, 1) := by decide +kernel
theorem dX0_holds_29 : decode cX0_holds 29 = .ok (.ireturn, 1) := by decide +kernel
theorem dX0_placeOf_0 : decode cX0_placeOf 0 = .ok (.aload_n 0, 1) := by decide +kernel
theorem dX0_placeOf_1 : decode cX0_placeOf 1 = .ok (.getfield 9, 3) := by decide +kernel
theorem dX0_placeOf_4 : decode cX0_placeOf 4 = .ok (.iload_n 2, 1) := by decide +kernel
theorem dX0_placeOf_5 : decode cX0_placeOf 5 = .ok (.imul, 1) := by decide +kernel
theorem dX0_placeOf_6 : decode cX0_placeOf 6 = .ok (.iload_n 1, 1) := by decide +kernel
theorem dX0_placeOf_7 : decode cX0_placeOf 7 = .ok (.iadd, 1) := by decide +kernel
theorem dX0_placeOf_8 : decode cX0_placeOf 8 = .ok (.ireturn, 1) := by decide +kernel
theorem dX0_aimBlock_0 : decode cX0_aimBlock 0 = .ok (.iload_n 2, 1) := by decide +kernel
theorem dX0_aimBlock_1 : decode cX0_aimBlock 1 = .ok (.istore 6, 2) := by decide +kernel
theorem dX0_aimBlock_3 : decode cX0_aimBlock 3 = .ok (.iload 6, 2) := by decide +kernel
theorem dX0_aimBlock_5 : decode cX0_aimBlock 5 = .ok (.iload 4, 2) := by decide +kernel
theorem dX0_aimBlock_7 : decode cX0_aimBlock 7 = .ok (.if_icmp .gt 39, 3) := by decide +kernel
theorem dX0_aimBlock_10 : decode cX0_aimBlock 10 = .ok (.iload_n 1, 1) := by decide +kernel
theorem dX0_aimBlock_11 : decode cX0_aimBlock 11 = .ok (.istore 7, 2) := by decide +kernel
theorem dX0_aimBlock_13 : decode cX0_aimBlock 13 = .ok (.iload 7, 2) := by decide +kernel
theorem dX0_aimBlock_15 : decode cX0_aimBlock 15 = .ok (.iload_n 3, 1) := by decide +kernel
theorem dX0_aimBlock_16 : decode cX0_aimBlock 16 = .ok (.if_icmp .gt 24, 3) := by decide +kernel
theorem dX0_aimBlock_19 : decode cX0_aimBlock 19 = .ok (.aload_n 0, 1) := by decide +kernel
theorem dX0_aimBlock_20 : decode cX0_aimBlock 20 = .ok (.getfield 22, 3) := by decide +kernel
theorem dX0_aimBlock_23 : decode cX0_aimBlock 23 = .ok (.aload_n 0, 1) := by decide +kernel
theorem dX0_aimBlock_24 : decode cX0_aimBlock 24 = .ok (.iload 7, 2) := by decide +kernel
theorem dX0_aimBlock_26 : decode cX0_aimBlock 26 = .ok (.iload 6, 2) := by decide +kernel
theorem dX0_aimBlock_28 : decode cX0_aimBlock 28 = .ok (.invokevirtual 38, 3) := by decide +kernel
theorem dX0_aimBlock_31 : decode cX0_aimBlock 31 = .ok (.iload 5, 2) := by decide +kernel
theorem dX0_aimBlock_33 : decode cX0_aimBlock 33 = .ok (.iastore, 1) := by decide +kernel
theorem dX0_aimBlock_34 : decode cX0_aimBlock 34 = .ok (.iinc 7 1, 3) := by decide +kernel
theorem dX0_aimBlock_37 : decode cX0_aimBlock 37 = .ok (.goto (-24), 3) := by decide +kernel
theorem dX0_aimBlock_40 : decode cX0_aimBlock 40 = .ok (.iinc 6 1, 3) := by decide +kernel
theorem dX0_aimBlock_43 : decode cX0_aimBlock 43 = .ok (.goto (-40), 3) := by decide +kernel
theorem dX0_aimBlock_46 : decode cX0_aimBlock 46 = .ok (.return_, 1) := by decide +kernel
theorem dX0_guardBlock_0 : decode cX0_guardBlock 0 = .ok (.iload_n 2, 1) := by decide +kernel
theorem dX0_guardBlock_1 : decode cX0_guardBlock 1 = .ok (.istore 6, 2) := by decide +kernel
theorem dX0_guardBlock_3 : decode cX0_guardBlock 3 = .ok (.iload 6, 2) := by decide +kernel
theorem dX0_guardBlock_5 : decode cX0_guardBlock 5 = .ok (.iload 4, 2) := by decide +kernel
theorem dX0_guardBlock_7 : decode cX0_guardBlock 7 = .ok (.if_icmp .gt 39, 3) := by decide +kernel
theorem dX0_guardBlock_10 : decode cX0_guardBlock 10 = .ok (.iload_n 1, 1) := by decide +kernel
theorem dX0_guardBlock_11 : decode cX0_guardBlock 11 = .ok (.istore 7, 2) := by decide +kernel
theorem dX0_guardBlock_13 : decode cX0_guardBlock 13 = .ok (.iload 7, 2) := by decide +kernel
theorem dX0_guardBlock_15 : decode cX0_guardBlock 15 = .ok (.iload_n 3, 1) := by decide +kernel
theorem dX0_guardBlock_16 : decode cX0_guardBlock 16 = .ok (.if_icmp .gt 24, 3) := by decide +kernel
theorem dX0_guardBlock_19 : decode cX0_guardBlock 19 = .ok (.aload_n 0, 1) := by decide +kernel
theorem dX0_guardBlock_20 : decode cX0_guardBlock 20 = .ok (.getfield 25, 3) := by decide +kernel
theorem dX0_guardBlock_23 : decode cX0_guardBlock 23 = .ok (.aload_n 0, 1) := by decide +kernel
theorem dX0_guardBlock_24 : decode cX0_guardBlock 24 = .ok (.iload 7, 2) := by decide +kernel
theorem dX0_guardBlock_26 : decode cX0_guardBlock 26 = .ok (.iload 6, 2) := by decide +kernel
theorem dX0_guardBlock_28 : decode cX0_guardBlock 28 = .ok (.invokevirtual 38, 3) := by decide +kernel
theorem dX0_guardBlock_31 : decode cX0_guardBlock 31 = .ok (.iload 5, 2) := by decide +kernel
theorem dX0_guardBlock_33 : decode cX0_guardBlock 33 = .ok (.bastore, 1) := by decide +kernel
theorem dX0_guardBlock_34 : decode cX0_guardBlock 34 = .ok (.iinc 7 1, 3) := by decide +kernel
theorem dX0_guardBlock_37 : decode cX0_guardBlock 37 = .ok (.goto (-24), 3) := by decide +kernel
theorem dX0_guardBlock_40 : decode cX0_guardBlock 40 = .ok (.iinc 6 1, 3) := by decide +kernel
theorem dX0_guardBlock_43 : decode cX0_guardBlock 43 = .ok (.goto (-40), 3) := by decide +kernel
theorem dX0_guardBlock_46 : decode cX0_guardBlock 46 = .ok (.return_, 1) := by decide +kernel
theorem dX0_fillUp_0 : decode cX0_fillUp 0 = .ok (.iconst 0, 1) := by decide +kernel
theorem dX0_fillUp_1 : decode cX0_fillUp 1 = .ok (.istore_n 1, 1) := by decide +kernel
theorem dX0_fillUp_2 : decode cX0_fillUp 2 = .ok (.iload_n 1, 1) := by decide +kernel
theorem dX0_fillUp_3 : decode cX0_fillUp 3 = .ok (.aload_n 0, 1) := by decide +kernel
theorem dX0_fillUp_4 : decode cX0_fillUp 4 = .ok (.getfield 15, 3) := by decide +kernel
theorem dX0_fillUp_7 : decode cX0_fillUp 7 = .ok (.if_icmp .ge 17, 3) := by decide +kernel
theorem dX0_fillUp_10 : decode cX0_fillUp 10 = .ok (.aload_n 0, 1) := by decide +kernel
theorem dX0_fillUp_11 : decode cX0_fillUp 11 = .ok (.getfield 18, 3) := by decide +kernel
theorem dX0_fillUp_14 : decode cX0_fillUp 14 = .ok (.iload_n 1, 1) := by decide +kernel
theorem dX0_fillUp_15 : decode cX0_fillUp 15 = .ok (.bipush 100, 2) := by decide +kernel
theorem dX0_fillUp_17 : decode cX0_fillUp 17 = .ok (.iastore, 1) := by decide +kernel
theorem dX0_fillUp_18 : decode cX0_fillUp 18 = .ok (.iinc 1 1, 3) := by decide +kernel
theorem dX0_fillUp_21 : decode cX0_fillUp 21 = .ok (.goto (-19), 3) := by decide +kernel
theorem dX0_fillUp_24 : decode cX0_fillUp 24 = .ok (.return_, 1) := by decide +kernel
theorem dX0_isOff_0 : decode cX0_isOff 0 = .ok (.iload_n 2, 1) := by decide +kernel
theorem dX0_isOff_1 : decode cX0_isOff 1 = .ok (.ifCond .eq 26, 3) := by decide +kernel
theorem dX0_isOff_4 : decode cX0_isOff 4 = .ok (.aload_n 0, 1) := by decide +kernel
theorem dX0_isOff_5 : decode cX0_isOff 5 = .ok (.getfield 18, 3) := by decide +kernel
theorem dX0_isOff_8 : decode cX0_isOff 8 = .ok (.iload_n 1, 1) := by decide +kernel
theorem dX0_isOff_9 : decode cX0_isOff 9 = .ok (.iaload, 1) := by decide +kernel
theorem dX0_isOff_10 : decode cX0_isOff 10 = .ok (.aload_n 0, 1) := by decide +kernel
theorem dX0_isOff_11 : decode cX0_isOff 11 = .ok (.getfield 22, 3) := by decide +kernel
theorem dX0_isOff_14 : decode cX0_isOff 14 = .ok (.iload_n 1, 1) := by decide +kernel
theorem dX0_isOff_15 : decode cX0_isOff 15 = .ok (.iaload, 1) := by decide +kernel
theorem dX0_isOff_16 : decode cX0_isOff 16 = .ok (.if_icmp .le 7, 3) := by decide +kernel
theorem dX0_isOff_19 : decode cX0_isOff 19 = .ok (.iconst 1, 1) := by decide +kernel
theorem dX0_isOff_20 : decode cX0_isOff 20 = .ok (.goto 27, 3) := by decide +kernel
theorem dX0_isOff_23 : decode cX0_isOff 23 = .ok (.iconst 0, 1) := by decide +kernel
theorem dX0_isOff_24 : decode cX0_isOff 24 = .ok (.goto 23, 3) := by decide +kernel
theorem dX0_isOff_27 : decode cX0_isOff 27 = .ok (.aload_n 0, 1) := by decide +kernel
theorem dX0_isOff_28 : decode cX0_isOff 28 = .ok (.getfield 18, 3) := by decide +kernel
theorem dX0_isOff_31 : decode cX0_isOff 31 = .ok (.iload_n 1, 1) := by decide +kernel
theorem dX0_isOff_32 : decode cX0_isOff 32 = .ok (.iaload, 1) := by decide +kernel
theorem dX0_isOff_33 : decode cX0_isOff 33 = .ok (.aload_n 0, 1) := by decide +kernel
theorem dX0_isOff_34 : decode cX0_isOff 34 = .ok (.getfield 22, 3) := by decide +kernel
theorem dX0_isOff_37 : decode cX0_isOff 37 = .ok (.iload_n 1, 1) := by decide +kernel
theorem dX0_isOff_38 : decode cX0_isOff 38 = .ok (.iaload, 1) := by decide +kernel
theorem dX0_isOff_39 : decode cX0_isOff 39 = .ok (.if_icmp .ge 7, 3) := by decide +kernel
theorem dX0_isOff_42 : decode cX0_isOff 42 = .ok (.iconst 1, 1) := by decide +kernel
theorem dX0_isOff_43 : decode cX0_isOff 43 = .ok (.goto 4, 3) := by decide +kernel
theorem dX0_isOff_46 : decode cX0_isOff 46 = .ok (.iconst 0, 1) := by decide +kernel
theorem dX0_isOff_47 : decode cX0_isOff 47 = .ok (.ireturn, 1) := by decide +kernel
theorem dX0_countOff_0 : decode cX0_countOff 0 = .ok (.iconst 0, 1) := by decide +kernel
theorem dX0_countOff_1 : decode cX0_countOff 1 = .ok (.istore_n 2, 1) := by decide +kernel
theorem dX0_countOff_2 : decode cX0_countOff 2 = .ok (.iconst 0, 1) := by decide +kernel
theorem dX0_countOff_3 : decode cX0_countOff 3 = .ok (.istore_n 3, 1) := by decide +kernel
theorem dX0_countOff_4 : decode cX0_countOff 4 = .ok (.iload_n 3, 1) := by decide +kernel
theorem dX0_countOff_5 : decode cX0_countOff 5 = .ok (.aload_n 0, 1) := by decide +kernel
theorem dX0_countOff_6 : decode cX0_countOff 6 = .ok (.getfield 15, 3) := by decide +kernel
theorem dX0_countOff_9 : decode cX0_countOff 9 = .ok (.if_icmp .ge 21, 3) := by decide +kernel
theorem dX0_countOff_12 : decode cX0_countOff 12 = .ok (.aload_n 0, 1) := by decide +kernel
theorem dX0_countOff_13 : decode cX0_countOff 13 = .ok (.iload_n 3, 1) := by decide +kernel
theorem dX0_countOff_14 : decode cX0_countOff 14 = .ok (.iload_n 1, 1) := by decide +kernel
theorem dX0_countOff_15 : decode cX0_countOff 15 = .ok (.invokevirtual 42, 3) := by decide +kernel
theorem dX0_countOff_18 : decode cX0_countOff 18 = .ok (.ifCond .eq 6, 3) := by decide +kernel
theorem dX0_countOff_21 : decode cX0_countOff 21 = .ok (.iinc 2 1, 3) := by decide +kernel
theorem dX0_countOff_24 : decode cX0_countOff 24 = .ok (.iinc 3 1, 3) := by decide +kernel
theorem dX0_countOff_27 : decode cX0_countOff 27 = .ok (.goto (-23), 3) := by decide +kernel
theorem dX0_countOff_30 : decode cX0_countOff 30 = .ok (.iload_n 2, 1) := by decide +kernel
theorem dX0_countOff_31 : decode cX0_countOff 31 = .ok (.ireturn, 1) := by decide +kernel
theorem dX0_firstOff_0 : decode cX0_firstOff 0 = .ok (.iconst 0, 1) := by decide +kernel
theorem dX0_firstOff_1 : decode cX0_firstOff 1 = .ok (.istore_n 2, 1) := by decide +kernel
theorem dX0_firstOff_2 : decode cX0_firstOff 2 = .ok (.iload_n 2, 1) := by decide +kernel
theorem dX0_firstOff_3 : decode cX0_firstOff 3 = .ok (.aload_n 0, 1) := by decide +kernel
theorem dX0_firstOff_4 : decode cX0_firstOff 4 = .ok (.getfield 15, 3) := by decide +kernel
theorem dX0_firstOff_7 : decode cX0_firstOff 7 = .ok (.if_icmp .ge 20, 3) := by decide +kernel
theorem dX0_firstOff_10 : decode cX0_firstOff 10 = .ok (.aload_n 0, 1) := by decide +kernel
theorem dX0_firstOff_11 : decode cX0_firstOff 11 = .ok (.iload_n 2, 1) := by decide +kernel
theorem dX0_firstOff_12 : decode cX0_firstOff 12 = .ok (.iload_n 1, 1) := by decide +kernel
theorem dX0_firstOff_13 : decode cX0_firstOff 13 = .ok (.invokevirtual 42, 3) := by decide +kernel
theorem dX0_firstOff_16 : decode cX0_firstOff 16 = .ok (.ifCond .eq 5, 3) := by decide +kernel
theorem dX0_firstOff_19 : decode cX0_firstOff 19 = .ok (.iload_n 2, 1) := by decide +kernel
theorem dX0_firstOff_20 : decode cX0_firstOff 20 = .ok (.ireturn, 1) := by decide +kernel
theorem dX0_firstOff_21 : decode cX0_firstOff 21 = .ok (.iinc 2 1, 3) := by decide +kernel
theorem dX0_firstOff_24 : decode cX0_firstOff 24 = .ok (.goto (-22), 3) := by decide +kernel
theorem dX0_firstOff_27 : decode cX0_firstOff 27 = .ok (.iconst (-1), 1) := by decide +kernel
theorem dX0_firstOff_28 : decode cX0_firstOff 28 = .ok (.ireturn, 1) := by decide +kernel
theorem dX0_layDisc_0 : decode cX0_layDisc 0 = .ok (.aload_n 0, 1) := by decide +kernel
theorem dX0_layDisc_1 : decode cX0_layDisc 1 = .ok (.iconst 0, 1) := by decide +kernel
theorem dX0_layDisc_2 : decode cX0_layDisc 2 = .ok (.putfield 35, 3) := by decide +kernel
theorem dX0_layDisc_5 : decode cX0_layDisc 5 = .ok (.aload_n 0, 1) := by decide +kernel
theorem dX0_layDisc_6 : decode cX0_layDisc 6 = .ok (.getfield 9, 3) := by decide +kernel
theorem dX0_layDisc_9 : decode cX0_layDisc 9 = .ok (.iconst 1, 1) := by decide +kernel
theorem dX0_layDisc_10 : decode cX0_layDisc 10 = .ok (.isub, 1) := by decide +kernel
theorem dX0_layDisc_11 : decode cX0_layDisc 11 = .ok (.iload_n 3, 1) := by decide +kernel
theorem dX0_layDisc_12 : decode cX0_layDisc 12 = .ok (.aload_n 1, 1) := by decide +kernel
theorem dX0_layDisc_13 : decode cX0_layDisc 13 = .ok (.getfield 46, 3) := by decide +kernel
theorem dX0_layDisc_16 : decode cX0_layDisc 16 = .ok (.iadd, 1) := by decide +kernel
theorem dX0_layDisc_17 : decode cX0_layDisc 17 = .ok (.invokestatic 51, 3) := by decide +kernel
theorem dX0_layDisc_20 : decode cX0_layDisc 20 = .ok (.istore 4, 2) := by decide +kernel
theorem dX0_layDisc_22 : decode cX0_layDisc 22 = .ok (.iconst 0, 1) := by decide +kernel
theorem dX0_layDisc_23 : decode cX0_layDisc 23 = .ok (.iload_n 3, 1) := by decide +kernel
theorem dX0_layDisc_24 : decode cX0_layDisc 24 = .ok (.aload_n 1, 1) := by decide +kernel
theorem dX0_layDisc_25 : decode cX0_layDisc 25 = .ok (.getfield 46, 3) := by decide +kernel
theorem dX0_layDisc_28 : decode cX0_layDisc 28 = .ok (.isub, 1) := by decide +kernel
theorem dX0_layDisc_29 : decode cX0_layDisc 29 = .ok (.invokestatic 56, 3) := by decide +kernel
theorem dX0_layDisc_32 : decode cX0_layDisc 32 = .ok (.istore 5, 2) := by decide +kernel
theorem dX0_layDisc_34 : decode cX0_layDisc 34 = .ok (.iload 5, 2) := by decide +kernel
theorem dX0_layDisc_36 : decode cX0_layDisc 36 = .ok (.iload 4, 2) := by decide +kernel
theorem dX0_layDisc_38 : decode cX0_layDisc 38 = .ok (.if_icmp .gt 88, 3) := by decide +kernel
theorem dX0_layDisc_41 : decode cX0_layDisc 41 = .ok (.aload_n 1, 1) := by decide +kernel
theorem dX0_layDisc_42 : decode cX0_layDisc 42 = .ok (.getfield 59, 3) := by decide +kernel
theorem dX0_layDisc_45 : decode cX0_layDisc 45 = .ok (.iload 5, 2) := by decide +kernel
theorem dX0_layDisc_47 : decode cX0_layDisc 47 = .ok (.iload_n 3, 1) := by decide +kernel
theorem dX0_layDisc_48 : decode cX0_layDisc 48 = .ok (.isub, 1) := by decide +kernel
theorem dX0_layDisc_49 : decode cX0_layDisc 49 = .ok (.invokestatic 62, 3) := by decide +kernel
theorem dX0_layDisc_52 : decode cX0_layDisc 52 = .ok (.iaload, 1) := by decide +kernel
theorem dX0_layDisc_53 : decode cX0_layDisc 53 = .ok (.istore 6, 2) := by decide +kernel
theorem dX0_layDisc_55 : decode cX0_layDisc 55 = .ok (.aload_n 0, 1) := by decide +kernel
theorem dX0_layDisc_56 : decode cX0_layDisc 56 = .ok (.getfield 9, 3) := by decide +kernel
theorem dX0_layDisc_59 : decode cX0_layDisc 59 = .ok (.iconst 1, 1) := by decide +kernel
theorem dX0_layDisc_60 : decode cX0_layDisc 60 = .ok (.isub, 1) := by decide +kernel
theorem dX0_layDisc_61 : decode cX0_layDisc 61 = .ok (.iload_n 2, 1) := by decide +kernel
theorem dX0_layDisc_62 : decode cX0_layDisc 62 = .ok (.iload 6, 2) := by decide +kernel
theorem dX0_layDisc_64 : decode cX0_layDisc 64 = .ok (.iadd, 1) := by decide +kernel
theorem dX0_layDisc_65 : decode cX0_layDisc 65 = .ok (.invokestatic 51, 3) := by decide +kernel
theorem dX0_layDisc_68 : decode cX0_layDisc 68 = .ok (.istore 7, 2) := by decide +kernel
theorem dX0_layDisc_70 : decode cX0_layDisc 70 = .ok (.iconst 0, 1) := by decide +kernel
theorem dX0_layDisc_71 : decode cX0_layDisc 71 = .ok (.iload_n 2, 1) := by decide +kernel
theorem dX0_layDisc_72 : decode cX0_layDisc 72 = .ok (.iload 6, 2) := by decide +kernel
theorem dX0_layDisc_74 : decode cX0_layDisc 74 = .ok (.isub, 1) := by decide +kernel
theorem dX0_layDisc_75 : decode cX0_layDisc 75 = .ok (.invokestatic 56, 3) := by decide +kernel
theorem dX0_layDisc_78 : decode cX0_layDisc 78 = .ok (.istore 8, 2) := by decide +kernel
theorem dX0_layDisc_80 : decode cX0_layDisc 80 = .ok (.iload 8, 2) := by decide +kernel
theorem dX0_layDisc_82 : decode cX0_layDisc 82 = .ok (.iload 7, 2) := by decide +kernel
theorem dX0_layDisc_84 : decode cX0_layDisc 84 = .ok (.if_icmp .gt 36, 3) := by decide +kernel
theorem dX0_layDisc_87 : decode cX0_layDisc 87 = .ok (.aload_n 0, 1) := by decide +kernel
theorem dX0_layDisc_88 : decode cX0_layDisc 88 = .ok (.getfield 32, 3) := by decide +kernel
theorem dX0_layDisc_91 : decode cX0_layDisc 91 = .ok (.aload_n 0, 1) := by decide +kernel
theorem dX0_layDisc_92 : decode cX0_layDisc 92 = .ok (.getfield 35, 3) := by decide +kernel
theorem dX0_layDisc_95 : decode cX0_layDisc 95 = .ok (.aload_n 0, 1) := by decide +kernel
theorem dX0_layDisc_96 : decode cX0_layDisc 96 = .ok (.iload 8, 2) := by decide +kernel
theorem dX0_layDisc_98 : decode cX0_layDisc 98 = .ok (.iload 5, 2) := by decide +kernel
theorem dX0_layDisc_100 : decode cX0_layDisc 100 = .ok (.invokevirtual 38, 3) := by decide +kernel
theorem dX0_layDisc_103 : decode cX0_layDisc 103 = .ok (.iastore, 1) := by decide +kernel
theorem dX0_layDisc_104 : decode cX0_layDisc 104 = .ok (.aload_n 0, 1) := by decide +kernel
theorem dX0_layDisc_105 : decode cX0_layDisc 105 = .ok (.dup, 1) := by decide +kernel
theorem dX0_layDisc_106 : decode cX0_layDisc 106 = .ok (.getfield 35, 3) := by decide +kernel
theorem dX0_layDisc_109 : decode cX0_layDisc 109 = .ok (.iconst 1, 1) := by decide +kernel
theorem dX0_layDisc_110 : decode cX0_layDisc 110 = .ok (.iadd, 1) := by decide +kernel
theorem dX0_layDisc_111 : decode cX0_layDisc 111 = .ok (.putfield 35, 3) := by decide +kernel
theorem dX0_layDisc_114 : decode cX0_layDisc 114 = .ok (.iinc 8 1, 3) := by decide +kernel
theorem dX0_layDisc_117 : decode cX0_layDisc 117 = .ok (.goto (-37), 3) := by decide +kernel
theorem dX0_layDisc_120 : decode cX0_layDisc 120 = .ok (.iinc 5 1, 3) := by decide +kernel
theorem dX0_layDisc_123 : decode cX0_layDisc 123 = .ok (.goto (-89), 3) := by decide +kernel
theorem dX0_layDisc_126 : decode cX0_layDisc 126 = .ok (.return_, 1) := by decide +kernel
theorem dX0_discRisesAbove_0 : decode cX0_discRisesAbove 0 = .ok (.iconst 0, 1) := by decide +kernel
theorem dX0_discRisesAbove_1 : decode cX0_discRisesAbove 1 = .ok (.istore_n 2, 1) := by decide +kernel
theorem dX0_discRisesAbove_2 : decode cX0_discRisesAbove 2 = .ok (.iload_n 2, 1) := by decide +kernel
theorem dX0_discRisesAbove_3 : decode cX0_discRisesAbove 3 = .ok (.aload_n 0, 1) := by decide +kernel
theorem dX0_discRisesAbove_4 : decode cX0_discRisesAbove 4 = .ok (.getfield 35, 3) := by decide +kernel
theorem dX0_discRisesAbove_7 : decode cX0_discRisesAbove 7 = .ok (.if_icmp .ge 26, 3) := by decide +kernel
theorem dX0_discRisesAbove_10 : decode cX0_discRisesAbove 10 = .ok (.aload_n 0, 1) := by decide +kernel
theorem dX0_discRisesAbove_11 : decode cX0_discRisesAbove 11 = .ok (.getfield 18, 3) := by decide +kernel
theorem dX0_discRisesAbove_14 : decode cX0_discRisesAbove 14 = .ok (.aload_n 0, 1) := by decide +kernel
theorem dX0_discRisesAbove_15 : decode cX0_discRisesAbove 15 = .ok (.getfield 32, 3) := by decide +kernel
theorem dX0_discRisesAbove_18 : decode cX0_discRisesAbove 18 = .ok (.iload_n 2, 1) := by decide +kernel
theorem dX0_discRisesAbove_19 : decode cX0_discRisesAbove 19 = .ok (.iaload, 1) := by decide +kernel
theorem dX0_discRisesAbove_20 : decode cX0_discRisesAbove 20 = .ok (.iaload, 1) := by decide +kernel
theorem dX0_discRisesAbove_21 : decode cX0_discRisesAbove 21 = .ok (.iload_n 1, 1) := by decide +kernel
theorem dX0_discRisesAbove_22 : decode cX0_discRisesAbove 22 = .ok (.if_icmp .le 5, 3) := by decide +kernel
theorem dX0_discRisesAbove_25 : decode cX0_discRisesAbove 25 = .ok (.iconst 1, 1) := by decide +kernel
theorem dX0_discRisesAbove_26 : decode cX0_discRisesAbove 26 = .ok (.ireturn, 1) := by decide +kernel
theorem dX0_discRisesAbove_27 : decode cX0_discRisesAbove 27 = .ok (.iinc 2 1, 3) := by decide +kernel
theorem dX0_discRisesAbove_30 : decode cX0_discRisesAbove 30 = .ok (.goto (-28), 3) := by decide +kernel
theorem dX0_discRisesAbove_33 : decode cX0_discRisesAbove 33 = .ok (.iconst 0, 1) := by decide +kernel
theorem dX0_discRisesAbove_34 : decode cX0_discRisesAbove 34 = .ok (.ireturn, 1) := by decide +kernel
theorem dX0_discHasKeptAbove_0 : decode cX0_discHasKeptAbove 0 = .ok (.iconst 0, 1) := by decide +kernel
theorem dX0_discHasKeptAbove_1 : decode cX0_discHasKeptAbove 1 = .ok (.istore_n 2, 1) := by decide +kernel
theorem dX0_discHasKeptAbove_2 : decode cX0_discHasKeptAbove 2 = .ok (.iload_n 2, 1) := by decide +kernel
theorem dX0_discHasKeptAbove_3 : decode cX0_discHasKeptAbove 3 = .ok (.aload_n 0, 1) := by decide +kernel
theorem dX0_discHasKeptAbove_4 : decode cX0_discHasKeptAbove 4 = .ok (.getfield 35, 3) := by decide +kernel
theorem dX0_discHasKeptAbove_7 : decode cX0_discHasKeptAbove 7 = .ok (.if_icmp .ge 40, 3) := by decide +kernel
theorem dX0_discHasKeptAbove_10 : decode cX0_discHasKeptAbove 10 = .ok (.aload_n 0, 1) := by decide +kernel
theorem dX0_discHasKeptAbove_11 : decode cX0_discHasKeptAbove 11 = .ok (.getfield 25, 3) := by decide +kernel
theorem dX0_discHasKeptAbove_14 : decode cX0_discHasKeptAbove 14 = .ok (.aload_n 0, 1) := by decide +kernel
theorem dX0_discHasKeptAbove_15 : decode cX0_discHasKeptAbove 15 = .ok (.getfield 32, 3) := by decide +kernel
theorem dX0_discHasKeptAbove_18 : decode cX0_discHasKeptAbove 18 = .ok (.iload_n 2, 1) := by decide +kernel
theorem dX0_discHasKeptAbove_19 : decode cX0_discHasKeptAbove 19 = .ok (.iaload, 1) := by decide +kernel
theorem dX0_discHasKeptAbove_20 : decode cX0_discHasKeptAbove 20 = .ok (.baload, 1) := by decide +kernel
theorem dX0_discHasKeptAbove_21 : decode cX0_discHasKeptAbove 21 = .ok (.ifCond .eq 20, 3) := by decide +kernel
theorem dX0_discHasKeptAbove_24 : decode cX0_discHasKeptAbove 24 = .ok (.aload_n 0, 1) := by decide +kernel
theorem dX0_discHasKeptAbove_25 : decode cX0_discHasKeptAbove 25 = .ok (.getfield 18, 3) := by decide +kernel
theorem dX0_discHasKeptAbove_28 : decode cX0_discHasKeptAbove 28 = .ok (.aload_n 0, 1) := by decide +kernel
theorem dX0_discHasKeptAbove_29 : decode cX0_discHasKeptAbove 29 = .ok (.getfield 32, 3) := by decide +kernel
theorem dX0_discHasKeptAbove_32 : decode cX0_discHasKeptAbove 32 = .ok (.iload_n 2, 1) := by decide +kernel
theorem dX0_discHasKeptAbove_33 : decode cX0_discHasKeptAbove 33 = .ok (.iaload, 1) := by decide +kernel
theorem dX0_discHasKeptAbove_34 : decode cX0_discHasKeptAbove 34 = .ok (.iaload, 1) := by decide +kernel
theorem dX0_discHasKeptAbove_35 : decode cX0_discHasKeptAbove 35 = .ok (.iload_n 1, 1) := by decide +kernel
theorem dX0_discHasKeptAbove_36 : decode cX0_discHasKeptAbove 36 = .ok (.if_icmp .le 5, 3) := by decide +kernel
theorem dX0_discHasKeptAbove_39 : decode cX0_discHasKeptAbove 39 = .ok (.iconst 1, 1) := by decide +kernel
theorem dX0_discHasKeptAbove_40 : decode cX0_discHasKeptAbove 40 = .ok (.ireturn, 1) := by decide +kernel
theorem dX0_discHasKeptAbove_41 : decode cX0_discHasKeptAbove 41 = .ok (.iinc 2 1, 3) := by decide +kernel
theorem dX0_discHasKeptAbove_44 : decode cX0_discHasKeptAbove 44 = .ok (.goto (-42), 3) := by decide +kernel
theorem dX0_discHasKeptAbove_47 : decode cX0_discHasKeptAbove 47 = .ok (.iconst 0, 1) := by decide +kernel
theorem dX0_discHasKeptAbove_48 : decode cX0_discHasKeptAbove 48 = .ok (.ireturn, 1) := by decide +kernel
theorem dX0_lowerDisc_0 : decode cX0_lowerDisc 0 = .ok (.iconst 0, 1) := by decide +kernel
theorem dX0_lowerDisc_1 : decode cX0_lowerDisc 1 = .ok (.istore_n 2, 1) := by decide +kernel
theorem dX0_lowerDisc_2 : decode cX0_lowerDisc 2 = .ok (.iconst 0, 1) := by decide +kernel
theorem dX0_lowerDisc_3 : decode cX0_lowerDisc 3 = .ok (.istore_n 3, 1) := by decide +kernel
theorem dX0_lowerDisc_4 : decode cX0_lowerDisc 4 = .ok (.iload_n 3, 1) := by decide +kernel
theorem dX0_lowerDisc_5 : decode cX0_lowerDisc 5 = .ok (.aload_n 0, 1) := by decide +kernel
theorem dX0_lowerDisc_6 : decode cX0_lowerDisc 6 = .ok (.getfield 35, 3) := by decide +kernel
theorem dX0_lowerDisc_9 : decode cX0_lowerDisc 9 = .ok (.if_icmp .ge 39, 3) := by decide +kernel
theorem dX0_lowerDisc_12 : decode cX0_lowerDisc 12 = .ok (.aload_n 0, 1) := by decide +kernel
theorem dX0_lowerDisc_13 : decode cX0_lowerDisc 13 = .ok (.getfield 18, 3) := by decide +kernel
theorem dX0_lowerDisc_16 : decode cX0_lowerDisc 16 = .ok (.aload_n 0, 1) := by decide +kernel
theorem dX0_lowerDisc_17 : decode cX0_lowerDisc 17 = .ok (.getfield 32, 3) := by decide +kernel
theorem dX0_lowerDisc_20 : decode cX0_lowerDisc 20 = .ok (.iload_n 3, 1) := by decide +kernel
theorem dX0_lowerDisc_21 : decode cX0_lowerDisc 21 = .ok (.iaload, 1) := by decide +kernel
theorem dX0_lowerDisc_22 : decode cX0_lowerDisc 22 = .ok (.iaload, 1) := by decide +kernel
theorem dX0_lowerDisc_23 : decode cX0_lowerDisc 23 = .ok (.iload_n 1, 1) := by decide +kernel
theorem dX0_lowerDisc_24 : decode cX0_lowerDisc 24 = .ok (.if_icmp .le 18, 3) := by decide +kernel
theorem dX0_lowerDisc_27 : decode cX0_lowerDisc 27 = .ok (.aload_n 0, 1) := by decide +kernel
theorem dX0_lowerDisc_28 : decode cX0_lowerDisc 28 = .ok (.getfield 18, 3) := by decide +kernel
theorem dX0_lowerDisc_31 : decode cX0_lowerDisc 31 = .ok (.aload_n 0, 1) := by decide +kernel
theorem dX0_lowerDisc_32 : decode cX0_lowerDisc 32 = .ok (.getfield 32, 3) := by decide +kernel
theorem dX0_lowerDisc_35 : decode cX0_lowerDisc 35 = .ok (.iload_n 3, 1) := by decide +kernel
theorem dX0_lowerDisc_36 : decode cX0_lowerDisc 36 = .ok (.iaload, 1) := by decide +kernel
theorem dX0_lowerDisc_37 : decode cX0_lowerDisc 37 = .ok (.iload_n 1, 1) := by decide +kernel
theorem dX0_lowerDisc_38 : decode cX0_lowerDisc 38 = .ok (.iastore, 1) := by decide +kernel
theorem dX0_lowerDisc_39 : decode cX0_lowerDisc 39 = .ok (.iinc 2 1, 3) := by decide +kernel
theorem dX0_lowerDisc_42 : decode cX0_lowerDisc 42 = .ok (.iinc 3 1, 3) := by decide +kernel
theorem dX0_lowerDisc_45 : decode cX0_lowerDisc 45 = .ok (.goto (-41), 3) := by decide +kernel
theorem dX0_lowerDisc_48 : decode cX0_lowerDisc 48 = .ok (.iload_n 2, 1) := by decide +kernel
theorem dX0_lowerDisc_49 : decode cX0_lowerDisc 49 = .ok (.ireturn, 1) := by decide +kernel
theorem dX0_countReached_0 : decode cX0_countReached 0 = .ok (.iconst 0, 1) := by decide +kernel
theorem dX0_countReached_1 : decode cX0_countReached 1 = .ok (.istore_n 2, 1) := by decide +kernel
theorem dX0_countReached_2 : decode cX0_countReached 2 = .ok (.iload_n 2, 1) := by decide +kernel
theorem dX0_countReached_3 : decode cX0_countReached 3 = .ok (.aload_n 0, 1) := by decide +kernel
theorem dX0_countReached_4 : decode cX0_countReached 4 = .ok (.getfield 15, 3) := by decide +kernel
theorem dX0_countReached_7 : decode cX0_countReached 7 = .ok (.if_icmp .ge 16, 3) := by decide +kernel
theorem dX0_countReached_10 : decode cX0_countReached 10 = .ok (.aload_n 0, 1) := by decide +kernel
theorem dX0_countReached_11 : decode cX0_countReached 11 = .ok (.getfield 29, 3) := by decide +kernel
theorem dX0_countReached_14 : decode cX0_countReached 14 = .ok (.iload_n 2, 1) := by decide +kernel
theorem dX0_countReached_15 : decode cX0_countReached 15 = .ok (.iconst 0, 1) := by decide +kernel
theorem dX0_countReached_16 : decode cX0_countReached 16 = .ok (.bastore, 1) := by decide +kernel
theorem dX0_countReached_17 : decode cX0_countReached 17 = .ok (.iinc 2 1, 3) := by decide +kernel
theorem dX0_countReached_20 : decode cX0_countReached 20 = .ok (.goto (-18), 3) := by decide +kernel
theorem dX0_countReached_23 : decode cX0_countReached 23 = .ok (.iconst 0, 1) := by decide +kernel
theorem dX0_countReached_24 : decode cX0_countReached 24 = .ok (.istore_n 2, 1) := by decide +kernel
theorem dX0_countReached_25 : decode cX0_countReached 25 = .ok (.iconst 0, 1) := by decide +kernel
theorem dX0_countReached_26 : decode cX0_countReached 26 = .ok (.istore_n 3, 1) := by decide +kernel
theorem dX0_countReached_27 : decode cX0_countReached 27 = .ok (.iload_n 3, 1) := by decide +kernel
theorem dX0_countReached_28 : decode cX0_countReached 28 = .ok (.aload_n 0, 1) := by decide +kernel
theorem dX0_countReached_29 : decode cX0_countReached 29 = .ok (.getfield 9, 3) := by decide +kernel
theorem dX0_countReached_32 : decode cX0_countReached 32 = .ok (.if_icmp .ge 53, 3) := by decide +kernel
theorem dX0_countReached_35 : decode cX0_countReached 35 = .ok (.iconst 0, 1) := by decide +kernel
theorem dX0_countReached_36 : decode cX0_countReached 36 = .ok (.istore 4, 2) := by decide +kernel
theorem dX0_countReached_38 : decode cX0_countReached 38 = .ok (.iload 4, 2) := by decide +kernel
theorem dX0_countReached_40 : decode cX0_countReached 40 = .ok (.aload_n 0, 1) := by decide +kernel
theorem dX0_countReached_41 : decode cX0_countReached 41 = .ok (.getfield 9, 3) := by decide +kernel
theorem dX0_countReached_44 : decode cX0_countReached 44 = .ok (.if_icmp .ge 35, 3) := by decide +kernel
theorem dX0_countReached_47 : decode cX0_countReached 47 = .ok (.aload_n 0, 1) := by decide +kernel
theorem dX0_countReached_48 : decode cX0_countReached 48 = .ok (.aload_n 1, 1) := by decide +kernel
theorem dX0_countReached_49 : decode cX0_countReached 49 = .ok (.iload 4, 2) := by decide +kernel
theorem dX0_countReached_51 : decode cX0_countReached 51 = .ok (.iload_n 3, 1) := by decide +kernel
theorem dX0_countReached_52 : decode cX0_countReached 52 = .ok (.invokevirtual 66, 3) := by decide +kernel
theorem dX0_countReached_55 : decode cX0_countReached 55 = .ok (.aload_n 0, 1) := by decide +kernel
theorem dX0_countReached_56 : decode cX0_countReached 56 = .ok (.invokevirtual 70, 3) := by decide +kernel
theorem dX0_countReached_59 : decode cX0_countReached 59 = .ok (.ifCond .ne 14, 3) := by decide +kernel
theorem dX0_countReached_62 : decode cX0_countReached 62 = .ok (.iload_n 2, 1) := by decide +kernel
theorem dX0_countReached_63 : decode cX0_countReached 63 = .ok (.aload_n 0, 1) := by decide +kernel
theorem dX0_countReached_64 : decode cX0_countReached 64 = .ok (.aload_n 0, 1) := by decide +kernel
theorem dX0_countReached_65 : decode cX0_countReached 65 = .ok (.invokevirtual 74, 3) := by decide +kernel
theorem dX0_countReached_68 : decode cX0_countReached 68 = .ok (.invokevirtual 78, 3) := by decide +kernel
theorem dX0_countReached_71 : decode cX0_countReached 71 = .ok (.iadd, 1) := by decide +kernel
theorem dX0_countReached_72 : decode cX0_countReached 72 = .ok (.istore_n 2, 1) := by decide +kernel
theorem dX0_countReached_73 : decode cX0_countReached 73 = .ok (.iinc 4 1, 3) := by decide +kernel
theorem dX0_countReached_76 : decode cX0_countReached 76 = .ok (.goto (-38), 3) := by decide +kernel
theorem dX0_countReached_79 : decode cX0_countReached 79 = .ok (.iinc 3 1, 3) := by decide +kernel
theorem dX0_countReached_82 : decode cX0_countReached 82 = .ok (.goto (-55), 3) := by decide +kernel
theorem dX0_countReached_85 : decode cX0_countReached 85 = .ok (.iload_n 2, 1) := by decide +kernel
theorem dX0_countReached_86 : decode cX0_countReached 86 = .ok (.ireturn, 1) := by decide +kernel
theorem dX0_discHasKept_0 : decode cX0_discHasKept 0 = .ok (.iconst 0, 1) := by decide +kernel
theorem dX0_discHasKept_1 : decode cX0_discHasKept 1 = .ok (.istore_n 1, 1) := by decide +kernel
theorem dX0_discHasKept_2 : decode cX0_discHasKept 2 = .ok (.iload_n 1, 1) := by decide +kernel
theorem dX0_discHasKept_3 : decode cX0_discHasKept 3 = .ok (.aload_n 0, 1) := by decide +kernel
theorem dX0_discHasKept_4 : decode cX0_discHasKept 4 = .ok (.getfield 35, 3) := by decide +kernel
theorem dX0_discHasKept_7 : decode cX0_discHasKept 7 = .ok (.if_icmp .ge 25, 3) := by decide +kernel
theorem dX0_discHasKept_10 : decode cX0_discHasKept 10 = .ok (.aload_n 0, 1) := by decide +kernel
theorem dX0_discHasKept_11 : decode cX0_discHasKept 11 = .ok (.getfield 25, 3) := by decide +kernel
theorem dX0_discHasKept_14 : decode cX0_discHasKept 14 = .ok (.aload_n 0, 1) := by decide +kernel
theorem dX0_discHasKept_15 : decode cX0_discHasKept 15 = .ok (.getfield 32, 3) := by decide +kernel
theorem dX0_discHasKept_18 : decode cX0_discHasKept 18 = .ok (.iload_n 1, 1) := by decide +kernel
theorem dX0_discHasKept_19 : decode cX0_discHasKept 19 = .ok (.iaload, 1) := by decide +kernel
theorem dX0_discHasKept_20 : decode cX0_discHasKept 20 = .ok (.baload, 1) := by decide +kernel
theorem dX0_discHasKept_21 : decode cX0_discHasKept 21 = .ok (.ifCond .eq 5, 3) := by decide +kernel
theorem dX0_discHasKept_24 : decode cX0_discHasKept 24 = .ok (.iconst 1, 1) := by decide +kernel
theorem dX0_discHasKept_25 : decode cX0_discHasKept 25 = .ok (.ireturn, 1) := by decide +kernel
theorem dX0_discHasKept_26 : decode cX0_discHasKept 26 = .ok (.iinc 1 1, 3) := by decide +kernel
theorem dX0_discHasKept_29 : decode cX0_discHasKept 29 = .ok (.goto (-27), 3) := by decide +kernel
theorem dX0_discHasKept_32 : decode cX0_discHasKept 32 = .ok (.iconst 0, 1) := by decide +kernel
theorem dX0_discHasKept_33 : decode cX0_discHasKept 33 = .ok (.ireturn, 1) := by decide +kernel
theorem dX0_highestTargetInDisc_0 : decode cX0_highestTargetInDisc 0 = .ok (.iconst 0, 1) := by decide +kernel
theorem dX0_highestTargetInDisc_1 : decode cX0_highestTargetInDisc 1 = .ok (.istore_n 1, 1) := by decide +kernel
theorem dX0_highestTargetInDisc_2 : decode cX0_highestTargetInDisc 2 = .ok (.iconst 0, 1) := by decide +kernel
theorem dX0_highestTargetInDisc_3 : decode cX0_highestTargetInDisc 3 = .ok (.istore_n 2, 1) := by decide +kernel
theorem dX0_highestTargetInDisc_4 : decode cX0_highestTargetInDisc 4 = .ok (.iload_n 2, 1) := by decide +kernel
theorem dX0_highestTargetInDisc_5 : decode cX0_highestTargetInDisc 5 = .ok (.aload_n 0, 1) := by decide +kernel
theorem dX0_highestTargetInDisc_6 : decode cX0_highestTargetInDisc 6 = .ok (.getfield 35, 3) := by decide +kernel
theorem dX0_highestTargetInDisc_9 : decode cX0_highestTargetInDisc 9 = .ok (.if_icmp .ge 25, 3) := by decide +kernel
theorem dX0_highestTargetInDisc_12 : decode cX0_highestTargetInDisc 12 = .ok (.iload_n 1, 1) := by decide +kernel
theorem dX0_highestTargetInDisc_13 : decode cX0_highestTargetInDisc 13 = .ok (.aload_n 0, 1) := by decide +kernel
theorem dX0_highestTargetInDisc_14 : decode cX0_highestTargetInDisc 14 = .ok (.getfield 22, 3) := by decide +kernel
theorem dX0_highestTargetInDisc_17 : decode cX0_highestTargetInDisc 17 = .ok (.aload_n 0, 1) := by decide +kernel
theorem dX0_highestTargetInDisc_18 : decode cX0_highestTargetInDisc 18 = .ok (.getfield 32, 3) := by decide +kernel
theorem dX0_highestTargetInDisc_21 : decode cX0_highestTargetInDisc 21 = .ok (.iload_n 2, 1) := by decide +kernel
theorem dX0_highestTargetInDisc_22 : decode cX0_highestTargetInDisc 22 = .ok (.iaload, 1) := by decide +kernel
theorem dX0_highestTargetInDisc_23 : decode cX0_highestTargetInDisc 23 = .ok (.iaload, 1) := by decide +kernel
theorem dX0_highestTargetInDisc_24 : decode cX0_highestTargetInDisc 24 = .ok (.invokestatic 56, 3) := by decide +kernel
theorem dX0_highestTargetInDisc_27 : decode cX0_highestTargetInDisc 27 = .ok (.istore_n 1, 1) := by decide +kernel
theorem dX0_highestTargetInDisc_28 : decode cX0_highestTargetInDisc 28 = .ok (.iinc 2 1, 3) := by decide +kernel
theorem dX0_highestTargetInDisc_31 : decode cX0_highestTargetInDisc 31 = .ok (.goto (-27), 3) := by decide +kernel
theorem dX0_highestTargetInDisc_34 : decode cX0_highestTargetInDisc 34 = .ok (.iload_n 1, 1) := by decide +kernel
theorem dX0_highestTargetInDisc_35 : decode cX0_highestTargetInDisc 35 = .ok (.ireturn, 1) := by decide +kernel
theorem dX0_markReached_0 : decode cX0_markReached 0 = .ok (.iconst 0, 1) := by decide +kernel
theorem dX0_markReached_1 : decode cX0_markReached 1 = .ok (.istore_n 2, 1) := by decide +kernel
theorem dX0_markReached_2 : decode cX0_markReached 2 = .ok (.iconst 0, 1) := by decide +kernel
theorem dX0_markReached_3 : decode cX0_markReached 3 = .ok (.istore_n 3, 1) := by decide +kernel
theorem dX0_markReached_4 : decode cX0_markReached 4 = .ok (.iload_n 3, 1) := by decide +kernel
theorem dX0_markReached_5 : decode cX0_markReached 5 = .ok (.aload_n 0, 1) := by decide +kernel
theorem dX0_markReached_6 : decode cX0_markReached 6 = .ok (.getfield 35, 3) := by decide +kernel
theorem dX0_markReached_9 : decode cX0_markReached 9 = .ok (.if_icmp .ge 59, 3) := by decide +kernel
theorem dX0_markReached_12 : decode cX0_markReached 12 = .ok (.aload_n 0, 1) := by decide +kernel
theorem dX0_markReached_13 : decode cX0_markReached 13 = .ok (.getfield 32, 3) := by decide +kernel
theorem dX0_markReached_16 : decode cX0_markReached 16 = .ok (.iload_n 3, 1) := by decide +kernel
theorem dX0_markReached_17 : decode cX0_markReached 17 = .ok (.iaload, 1) := by decide +kernel
theorem dX0_markReached_18 : decode cX0_markReached 18 = .ok (.istore 4, 2) := by decide +kernel
theorem dX0_markReached_20 : decode cX0_markReached 20 = .ok (.aload_n 0, 1) := by decide +kernel
theorem dX0_markReached_21 : decode cX0_markReached 21 = .ok (.getfield 29, 3) := by decide +kernel
theorem dX0_markReached_24 : decode cX0_markReached 24 = .ok (.iload 4, 2) := by decide +kernel
theorem dX0_markReached_26 : decode cX0_markReached 26 = .ok (.baload, 1) := by decide +kernel
theorem dX0_markReached_27 : decode cX0_markReached 27 = .ok (.ifCond .ne 35, 3) := by decide +kernel
theorem dX0_markReached_30 : decode cX0_markReached 30 = .ok (.aload_n 0, 1) := by decide +kernel
theorem dX0_markReached_31 : decode cX0_markReached 31 = .ok (.getfield 22, 3) := by decide +kernel
theorem dX0_markReached_34 : decode cX0_markReached 34 = .ok (.iload 4, 2) := by decide +kernel
theorem dX0_markReached_36 : decode cX0_markReached 36 = .ok (.iaload, 1) := by decide +kernel
theorem dX0_markReached_37 : decode cX0_markReached 37 = .ok (.iload_n 1, 1) := by decide +kernel
theorem dX0_markReached_38 : decode cX0_markReached 38 = .ok (.if_icmp .ne 24, 3) := by decide +kernel
theorem dX0_markReached_41 : decode cX0_markReached 41 = .ok (.aload_n 0, 1) := by decide +kernel
theorem dX0_markReached_42 : decode cX0_markReached 42 = .ok (.iload 4, 2) := by decide +kernel
theorem dX0_markReached_44 : decode cX0_markReached 44 = .ok (.iconst 1, 1) := by decide +kernel
theorem dX0_markReached_45 : decode cX0_markReached 45 = .ok (.invokevirtual 42, 3) := by decide +kernel
theorem dX0_markReached_48 : decode cX0_markReached 48 = .ok (.ifCond .eq 14, 3) := by decide +kernel
theorem dX0_markReached_51 : decode cX0_markReached 51 = .ok (.aload_n 0, 1) := by decide +kernel
theorem dX0_markReached_52 : decode cX0_markReached 52 = .ok (.getfield 29, 3) := by decide +kernel
theorem dX0_markReached_55 : decode cX0_markReached 55 = .ok (.iload 4, 2) := by decide +kernel
theorem dX0_markReached_57 : decode cX0_markReached 57 = .ok (.iconst 1, 1) := by decide +kernel
theorem dX0_markReached_58 : decode cX0_markReached 58 = .ok (.bastore, 1) := by decide +kernel
theorem dX0_markReached_59 : decode cX0_markReached 59 = .ok (.iinc 2 1, 3) := by decide +kernel
theorem dX0_markReached_62 : decode cX0_markReached 62 = .ok (.iinc 3 1, 3) := by decide +kernel
theorem dX0_markReached_65 : decode cX0_markReached 65 = .ok (.goto (-61), 3) := by decide +kernel
theorem dX0_markReached_68 : decode cX0_markReached 68 = .ok (.iload_n 2, 1) := by decide +kernel
theorem dX0_markReached_69 : decode cX0_markReached 69 = .ok (.ireturn, 1) := by decide +kernel
theorem dX5_init_0 : decode cX5_init 0 = .ok (.aload_n 0, 1) := by decide +kernel
theorem dX5_init_1 : decode cX5_init 1 = .ok (.invokespecial 3, 3) := by decide +kernel
theorem dX5_init_4 : decode cX5_init 4 = .ok (.aload_n 0, 1) := by decide +kernel
theorem dX5_init_5 : decode cX5_init 5 = .ok (.iconst 0, 1) := by decide +kernel
theorem dX5_init_6 : decode cX5_init 6 = .ok (.putfield 9, 3) := by decide +kernel
theorem dX5_init_9 : decode cX5_init 9 = .ok (.aload_n 0, 1) := by decide +kernel
theorem dX5_init_10 : decode cX5_init 10 = .ok (.iconst 1, 1) := by decide +kernel
theorem dX5_init_11 : decode cX5_init 11 = .ok (.putfield 15, 3) := by decide +kernel
theorem dX5_init_14 : decode cX5_init 14 = .ok (.aload_n 0, 1) := by decide +kernel
theorem dX5_init_15 : decode cX5_init 15 = .ok (.bipush 7, 2) := by decide +kernel
theorem dX5_init_17 : decode cX5_init 17 = .ok (.newarray .int, 2) := by decide +kernel
theorem dX5_init_19 : decode cX5_init 19 = .ok (.putfield 18, 3) := by decide +kernel
theorem dX5_init_22 : decode cX5_init 22 = .ok (.return_, 1) := by decide +kernel
theorem dX5_become_0 : decode cX5_become 0 = .ok (.aload_n 0, 1) := by decide +kernel
theorem dX5_become_1 : decode cX5_become 1 = .ok (.iload_n 1, 1) := by decide +kernel
theorem dX5_become_2 : decode cX5_become 2 = .ok (.putfield 9, 3) := by decide +kernel
theorem dX5_become_5 : decode cX5_become 5 = .ok (.aload_n 0, 1) := by decide +kernel
theorem dX5_become_6 : decode cX5_become 6 = .ok (.iload_n 2, 1) := by decide +kernel
theorem dX5_become_7 : decode cX5_become 7 = .ok (.putfield 15, 3) := by decide +kernel
theorem dX5_become_10 : decode cX5_become 10 = .ok (.iconst 0, 1) := by decide +kernel
theorem dX5_become_11 : decode cX5_become 11 = .ok (.istore_n 3, 1) := by decide +kernel
theorem dX5_become_12 : decode cX5_become 12 = .ok (.iload_n 3, 1) := by decide +kernel
theorem dX5_become_13 : decode cX5_become 13 = .ok (.bipush 6, 2) := by decide +kernel
theorem dX5_become_15 : decode cX5_become 15 = .ok (.if_icmp .gt 20, 3) := by decide +kernel
theorem dX5_become_18 : decode cX5_become 18 = .ok (.aload_n 0, 1) := by decide +kernel
theorem dX5_become_19 : decode cX5_become 19 = .ok (.getfield 18, 3) := by decide +kernel
theorem dX5_become_22 : decode cX5_become 22 = .ok (.iload_n 3, 1) := by decide +kernel
theorem dX5_become_23 : decode cX5_become 23 = .ok (.iload_n 3, 1) := by decide +kernel
theorem dX5_become_24 : decode cX5_become 24 = .ok (.iload_n 1, 1) := by decide +kernel
theorem dX5_become_25 : decode cX5_become 25 = .ok (.invokestatic 22, 3) := by decide +kernel
theorem dX5_become_28 : decode cX5_become 28 = .ok (.iastore, 1) := by decide +kernel
theorem dX5_become_29 : decode cX5_become 29 = .ok (.iinc 3 1, 3) := by decide +kernel
theorem dX5_become_32 : decode cX5_become 32 = .ok (.goto (-20), 3) := by decide +kernel
theorem dX5_become_35 : decode cX5_become 35 = .ok (.return_, 1) := by decide +kernel
theorem dX5_halfWidthAt_0 : decode cX5_halfWidthAt 0 = .ok (.iconst 0, 1) := by decide +kernel
theorem dX5_halfWidthAt_1 : decode cX5_halfWidthAt 1 = .ok (.istore_n 2, 1) := by decide +kernel
theorem dX5_halfWidthAt_2 : decode cX5_halfWidthAt 2 = .ok (.iconst 1, 1) := by decide +kernel
theorem dX5_halfWidthAt_3 : decode cX5_halfWidthAt 3 = .ok (.istore_n 3, 1) := by decide +kernel
theorem dX5_halfWidthAt_4 : decode cX5_halfWidthAt 4 = .ok (.iload_n 3, 1) := by decide +kernel
theorem dX5_halfWidthAt_5 : decode cX5_halfWidthAt 5 = .ok (.iload_n 1, 1) := by decide +kernel
theorem dX5_halfWidthAt_6 : decode cX5_halfWidthAt 6 = .ok (.if_icmp .gt 24, 3) := by decide +kernel
theorem dX5_halfWidthAt_9 : decode cX5_halfWidthAt 9 = .ok (.iload_n 3, 1) := by decide +kernel
theorem dX5_halfWidthAt_10 : decode cX5_halfWidthAt 10 = .ok (.iload_n 3, 1) := by decide +kernel
theorem dX5_halfWidthAt_11 : decode cX5_halfWidthAt 11 = .ok (.imul, 1) := by decide +kernel
theorem dX5_halfWidthAt_12 : decode cX5_halfWidthAt 12 = .ok (.iload_n 0, 1) := by decide +kernel
theorem dX5_halfWidthAt_13 : decode cX5_halfWidthAt 13 = .ok (.iload_n 0, 1) := by decide +kernel
theorem dX5_halfWidthAt_14 : decode cX5_halfWidthAt 14 = .ok (.imul, 1) := by decide +kernel
theorem dX5_halfWidthAt_15 : decode cX5_halfWidthAt 15 = .ok (.iadd, 1) := by decide +kernel
theorem dX5_halfWidthAt_16 : decode cX5_halfWidthAt 16 = .ok (.iload_n 1, 1) := by decide +kernel
theorem dX5_halfWidthAt_17 : decode cX5_halfWidthAt 17 = .ok (.iload_n 1, 1) := by decide +kernel
theorem dX5_halfWidthAt_18 : decode cX5_halfWidthAt 18 = .ok (.imul, 1) := by decide +kernel
theorem dX5_halfWidthAt_19 : decode cX5_halfWidthAt 19 = .ok (.if_icmp .gt 5, 3) := by decide +kernel
theorem dX5_halfWidthAt_22 : decode cX5_halfWidthAt 22 = .ok (.iload_n 3, 1) := by decide +kernel
theorem dX5_halfWidthAt_23 : decode cX5_halfWidthAt 23 = .ok (.istore_n 2, 1) := by decide +kernel
theorem dX5_halfWidthAt_24 : decode cX5_halfWidthAt 24 = .ok (.iinc 3 1, 3) := by decide +kernel
theorem dX5_halfWidthAt_27 : decode cX5_halfWidthAt 27 = .ok (.goto (-23), 3) := by decide +kernel
theorem dX5_halfWidthAt_30 : decode cX5_halfWidthAt 30 = .ok (.iload_n 2, 1) := by decide +kernel
theorem dX5_halfWidthAt_31 : decode cX5_halfWidthAt 31 = .ok (.ireturn, 1) := by decide +kernel
theorem dJm_abs_0 : decode cJm_abs 0 = .ok (.iload_n 0, 1) := by decide +kernel
theorem dJm_abs_1 : decode cJm_abs 1 = .ok (.ifCond .ge 8, 3) := by decide +kernel
theorem dJm_abs_4 : decode cJm_abs 4 = .ok (.iload_n 0, 1) := by decide +kernel
theorem dJm_abs_5 : decode cJm_abs 5 = .ok (.ineg, 1) := by decide +kernel
theorem dJm_abs_6 : decode cJm_abs 6 = .ok (.goto 4, 3) := by decide +kernel
theorem dJm_abs_9 : decode cJm_abs 9 = .ok (.iload_n 0, 1) := by decide +kernel
theorem dJm_abs_10 : decode cJm_abs 10 = .ok (.ireturn, 1) := by decide +kernel
theorem dJm_floorDiv_0 : decode cJm_floorDiv 0 = .ok (.iload_n 0, 1) := by decide +kernel
theorem dJm_floorDiv_1 : decode cJm_floorDiv 1 = .ok (.iload_n 1, 1) := by decide +kernel
theorem dJm_floorDiv_2 : decode cJm_floorDiv 2 = .ok (.idiv, 1) := by decide +kernel
theorem dJm_floorDiv_3 : decode cJm_floorDiv 3 = .ok (.istore_n 2, 1) := by decide +kernel
theorem dJm_floorDiv_4 : decode cJm_floorDiv 4 = .ok (.iload_n 0, 1) := by decide +kernel
theorem dJm_floorDiv_5 : decode cJm_floorDiv 5 = .ok (.iload_n 1, 1) := by decide +kernel
theorem dJm_floorDiv_6 : decode cJm_floorDiv 6 = .ok (.ixor, 1) := by decide +kernel
theorem dJm_floorDiv_7 : decode cJm_floorDiv 7 = .ok (.ifCond .ge 14, 3) := by decide +kernel
theorem dJm_floorDiv_10 : decode cJm_floorDiv 10 = .ok (.iload_n 2, 1) := by decide +kernel
theorem dJm_floorDiv_11 : decode cJm_floorDiv 11 = .ok (.iload_n 1, 1) := by decide +kernel
theorem dJm_floorDiv_12 : decode cJm_floorDiv 12 = .ok (.imul, 1) := by decide +kernel
theorem dJm_floorDiv_13 : decode cJm_floorDiv 13 = .ok (.iload_n 0, 1) := by decide +kernel
theorem dJm_floorDiv_14 : decode cJm_floorDiv 14 = .ok (.if_icmp .eq 7, 3) := by decide +kernel
theorem dJm_floorDiv_17 : decode cJm_floorDiv 17 = .ok (.iload_n 2, 1) := by decide +kernel
theorem dJm_floorDiv_18 : decode cJm_floorDiv 18 = .ok (.iconst 1, 1) := by decide +kernel
theorem dJm_floorDiv_19 : decode cJm_floorDiv 19 = .ok (.isub, 1) := by decide +kernel
theorem dJm_floorDiv_20 : decode cJm_floorDiv 20 = .ok (.ireturn, 1) := by decide +kernel
theorem dJm_floorDiv_21 : decode cJm_floorDiv 21 = .ok (.iload_n 2, 1) := by decide +kernel
theorem dJm_floorDiv_22 : decode cJm_floorDiv 22 = .ok (.ireturn, 1) := by decide +kernel
theorem dJm_max_0 : decode cJm_max 0 = .ok (.iload_n 0, 1) := by decide +kernel
theorem dJm_max_1 : decode cJm_max 1 = .ok (.iload_n 1, 1) := by decide +kernel
theorem dJm_max_2 : decode cJm_max 2 = .ok (.if_icmp .lt 7, 3) := by decide +kernel
theorem dJm_max_5 : decode cJm_max 5 = .ok (.iload_n 0, 1) := by decide +kernel
theorem dJm_max_6 : decode cJm_max 6 = .ok (.goto 4, 3) := by decide +kernel
theorem dJm_max_9 : decode cJm_max 9 = .ok (.iload_n 1, 1) := by decide +kernel
theorem dJm_max_10 : decode cJm_max 10 = .ok (.ireturn, 1) := by decide +kernel
theorem dJm_min_0 : decode cJm_min 0 = .ok (.iload_n 0, 1) := by decide +kernel
theorem dJm_min_1 : decode cJm_min 1 = .ok (.iload_n 1, 1) := by decide +kernel
theorem dJm_min_2 : decode cJm_min 2 = .ok (.if_icmp .gt 7, 3) := by decide +kernel
theorem dJm_min_5 : decode cJm_min 5 = .ok (.iload_n 0, 1) := by decide +kernel
theorem dJm_min_6 : decode cJm_min 6 = .ok (.goto 4, 3) := by decide +kernel
theorem dJm_min_9 : decode cJm_min 9 = .ok (.iload_n 1, 1) := by decide +kernel
theorem dJm_min_10 : decode cJm_min 10 = .ok (.ireturn, 1) := by decide +kernel
end
section
theorem dX1_init_0 : decode cX1_init 0 = .ok (.aload_n 0, 1) := by decide +kernel
theorem dX1_init_1 : decode cX1_init 1 = .ok (.invokespecial 3, 3) := by decide +kernel
theorem dX1_init_4 : decode cX1_init 4 = .ok (.aload_n 0, 1) := by decide +kernel
theorem dX1_init_5 : decode cX1_init 5 = .ok (.iconst 0, 1) := by decide +kernel
theorem dX1_init_6 : decode cX1_init 6 = .ok (.putfield 9, 3) := by decide +kernel
theorem dX1_init_9 : decode cX1_init 9 = .ok (.aload_n 0, 1) := by decide +kernel
theorem dX1_init_10 : decode cX1_init 10 = .ok (.invokevirtual 15, 3) := by decide +kernel
theorem dX1_init_13 : decode cX1_init 13 = .ok (.return_, 1) := by decide +kernel
theorem dX1_startAnew_0 : decode cX1_startAnew 0 = .ok (.aload_n 0, 1) := by decide +kernel
theorem dX1_startAnew_1 : decode cX1_startAnew 1 = .ok (.iconst 0, 1) := by decide +kernel
theorem dX1_startAnew_2 : decode cX1_startAnew 2 = .ok (.putfield 18, 3) := by decide +kernel
theorem dX1_startAnew_5 : decode cX1_startAnew 5 = .ok (.aload_n 0, 1) := by decide +kernel
theorem dX1_startAnew_6 : decode cX1_startAnew 6 = .ok (.iconst 0, 1) := by decide +kernel
theorem dX1_startAnew_7 : decode cX1_startAnew 7 = .ok (.putfield 22, 3) := by decide +kernel
theorem dX1_startAnew_10 : decode cX1_startAnew 10 = .ok (.aload_n 0, 1) := by decide +kernel
theorem dX1_startAnew_11 : decode cX1_startAnew 11 = .ok (.iconst 0, 1) := by decide +kernel
theorem dX1_startAnew_12 : decode cX1_startAnew 12 = .ok (.putfield 25, 3) := by decide +kernel
theorem dX1_startAnew_15 : decode cX1_startAnew 15 = .ok (.aload_n 0, 1) := by decide +kernel
theorem dX1_startAnew_16 : decode cX1_startAnew 16 = .ok (.iconst 0, 1) := by decide +kernel
theorem dX1_startAnew_17 : decode cX1_startAnew 17 = .ok (.putfield 28, 3) := by decide +kernel
theorem dX1_startAnew_20 : decode cX1_startAnew 20 = .ok (.aload_n 0, 1) := by decide +kernel
theorem dX1_startAnew_21 : decode cX1_startAnew 21 = .ok (.bipush 100, 2) := by decide +kernel
theorem dX1_startAnew_23 : decode cX1_startAnew 23 = .ok (.putfield 31, 3) := by decide +kernel
theorem dX1_startAnew_26 : decode cX1_startAnew 26 = .ok (.aload_n 0, 1) := by decide +kernel
theorem dX1_startAnew_27 : decode cX1_startAnew 27 = .ok (.iconst 0, 1) := by decide +kernel
theorem dX1_startAnew_28 : decode cX1_startAnew 28 = .ok (.putfield 34, 3) := by decide +kernel
theorem dX1_startAnew_31 : decode cX1_startAnew 31 = .ok (.aload_n 0, 1) := by decide +kernel
theorem dX1_startAnew_32 : decode cX1_startAnew 32 = .ok (.iconst 0, 1) := by decide +kernel
theorem dX1_startAnew_33 : decode cX1_startAnew 33 = .ok (.putfield 37, 3) := by decide +kernel
theorem dX1_startAnew_36 : decode cX1_startAnew 36 = .ok (.return_, 1) := by decide +kernel
theorem dX1_follow_0 : decode cX1_follow 0 = .ok (.aload_n 0, 1) := by decide +kernel
theorem dX1_follow_1 : decode cX1_follow 1 = .ok (.invokevirtual 15, 3) := by decide +kernel
theorem dX1_follow_4 : decode cX1_follow 4 = .ok (.aload_n 0, 1) := by decide +kernel
theorem dX1_follow_5 : decode cX1_follow 5 = .ok (.iconst 1, 1) := by decide +kernel
theorem dX1_follow_6 : decode cX1_follow 6 = .ok (.putfield 9, 3) := by decide +kernel
theorem dX1_follow_9 : decode cX1_follow 9 = .ok (.iconst 0, 1) := by decide +kernel
theorem dX1_follow_10 : decode cX1_follow 10 = .ok (.istore 4, 2) := by decide +kernel
theorem dX1_follow_12 : decode cX1_follow 12 = .ok (.iload 4, 2) := by decide +kernel
theorem dX1_follow_14 : decode cX1_follow 14 = .ok (.aload_n 1, 1) := by decide +kernel
theorem dX1_follow_15 : decode cX1_follow 15 = .ok (.getfield 40, 3) := by decide +kernel
theorem dX1_follow_18 : decode cX1_follow 18 = .ok (.if_icmp .ge 34, 3) := by decide +kernel
theorem dX1_follow_21 : decode cX1_follow 21 = .ok (.aload_n 0, 1) := by decide +kernel
theorem dX1_follow_22 : decode cX1_follow 22 = .ok (.iload 4, 2) := by decide +kernel
theorem dX1_follow_24 : decode cX1_follow 24 = .ok (.putfield 22, 3) := by decide +kernel
theorem dX1_follow_27 : decode cX1_follow 27 = .ok (.aload_n 0, 1) := by decide +kernel
theorem dX1_follow_28 : decode cX1_follow 28 = .ok (.aload_n 1, 1) := by decide +kernel
theorem dX1_follow_29 : decode cX1_follow 29 = .ok (.iload 4, 2) := by decide +kernel
theorem dX1_follow_31 : decode cX1_follow 31 = .ok (.aload_n 2, 1) := by decide +kernel
theorem dX1_follow_32 : decode cX1_follow 32 = .ok (.aload_n 3, 1) := by decide +kernel
theorem dX1_follow_33 : decode cX1_follow 33 = .ok (.invokevirtual 45, 3) := by decide +kernel
theorem dX1_follow_36 : decode cX1_follow 36 = .ok (.istore 5, 2) := by decide +kernel
theorem dX1_follow_38 : decode cX1_follow 38 = .ok (.iload 5, 2) := by decide +kernel
theorem dX1_follow_40 : decode cX1_follow 40 = .ok (.ifCond .eq 6, 3) := by decide +kernel
theorem dX1_follow_43 : decode cX1_follow 43 = .ok (.iload 5, 2) := by decide +kernel
theorem dX1_follow_45 : decode cX1_follow 45 = .ok (.ireturn, 1) := by decide +kernel
theorem dX1_follow_46 : decode cX1_follow 46 = .ok (.iinc 4 1, 3) := by decide +kernel
theorem dX1_follow_49 : decode cX1_follow 49 = .ok (.goto (-37), 3) := by decide +kernel
theorem dX1_follow_52 : decode cX1_follow 52 = .ok (.aload_n 0, 1) := by decide +kernel
theorem dX1_follow_53 : decode cX1_follow 53 = .ok (.aload_n 1, 1) := by decide +kernel
theorem dX1_follow_54 : decode cX1_follow 54 = .ok (.getfield 40, 3) := by decide +kernel
theorem dX1_follow_57 : decode cX1_follow 57 = .ok (.putfield 22, 3) := by decide +kernel
theorem dX1_follow_60 : decode cX1_follow 60 = .ok (.iconst 0, 1) := by decide +kernel
theorem dX1_follow_61 : decode cX1_follow 61 = .ok (.ireturn, 1) := by decide +kernel
theorem dX1_obey_0 : decode cX1_obey 0 = .ok (.aload_n 1, 1) := by decide +kernel
theorem dX1_obey_1 : decode cX1_obey 1 = .ok (.getfield 49, 3) := by decide +kernel
theorem dX1_obey_4 : decode cX1_obey 4 = .ok (.iload_n 2, 1) := by decide +kernel
theorem dX1_obey_5 : decode cX1_obey 5 = .ok (.caload, 1) := by decide +kernel
theorem dX1_obey_6 : decode cX1_obey 6 = .ok (.bipush 84, 2) := by decide +kernel
theorem dX1_obey_8 : decode cX1_obey 8 = .ok (.if_icmp .ne 26, 3) := by decide +kernel
theorem dX1_obey_11 : decode cX1_obey 11 = .ok (.aload_n 0, 1) := by decide +kernel
theorem dX1_obey_12 : decode cX1_obey 12 = .ok (.aload_n 1, 1) := by decide +kernel
theorem dX1_obey_13 : decode cX1_obey 13 = .ok (.getfield 53, 3) := by decide +kernel
theorem dX1_obey_16 : decode cX1_obey 16 = .ok (.iload_n 2, 1) := by decide +kernel
theorem dX1_obey_17 : decode cX1_obey 17 = .ok (.iaload, 1) := by decide +kernel
theorem dX1_obey_18 : decode cX1_obey 18 = .ok (.putfield 37, 3) := by decide +kernel
theorem dX1_obey_21 : decode cX1_obey 21 = .ok (.aload_n 0, 1) := by decide +kernel
theorem dX1_obey_22 : decode cX1_obey 22 = .ok (.dup, 1) := by decide +kernel
theorem dX1_obey_23 : decode cX1_obey 23 = .ok (.getfield 18, 3) := by decide +kernel
theorem dX1_obey_26 : decode cX1_obey 26 = .ok (.bipush 10, 2) := by decide +kernel
theorem dX1_obey_28 : decode cX1_obey 28 = .ok (.iadd, 1) := by decide +kernel
theorem dX1_obey_29 : decode cX1_obey 29 = .ok (.putfield 18, 3) := by decide +kernel
theorem dX1_obey_32 : decode cX1_obey 32 = .ok (.iconst 0, 1) := by decide +kernel
theorem dX1_obey_33 : decode cX1_obey 33 = .ok (.ireturn, 1) := by decide +kernel
theorem dX1_obey_34 : decode cX1_obey 34 = .ok (.aload_n 0, 1) := by decide +kernel
theorem dX1_obey_35 : decode cX1_obey 35 = .ok (.getfield 25, 3) := by decide +kernel
theorem dX1_obey_38 : decode cX1_obey 38 = .ok (.aload_n 1, 1) := by decide +kernel
theorem dX1_obey_39 : decode cX1_obey 39 = .ok (.getfield 57, 3) := by decide +kernel
theorem dX1_obey_42 : decode cX1_obey 42 = .ok (.iload_n 2, 1) := by decide +kernel
theorem dX1_obey_43 : decode cX1_obey 43 = .ok (.iaload, 1) := by decide +kernel
theorem dX1_obey_44 : decode cX1_obey 44 = .ok (.invokestatic 60, 3) := by decide +kernel
theorem dX1_obey_47 : decode cX1_obey 47 = .ok (.istore 5, 2) := by decide +kernel
theorem dX1_obey_49 : decode cX1_obey 49 = .ok (.aload_n 0, 1) := by decide +kernel
theorem dX1_obey_50 : decode cX1_obey 50 = .ok (.getfield 28, 3) := by decide +kernel
theorem dX1_obey_53 : decode cX1_obey 53 = .ok (.aload_n 1, 1) := by decide +kernel
theorem dX1_obey_54 : decode cX1_obey 54 = .ok (.getfield 64, 3) := by decide +kernel
theorem dX1_obey_57 : decode cX1_obey 57 = .ok (.iload_n 2, 1) := by decide +kernel
theorem dX1_obey_58 : decode cX1_obey 58 = .ok (.iaload, 1) := by decide +kernel
theorem dX1_obey_59 : decode cX1_obey 59 = .ok (.invokestatic 60, 3) := by decide +kernel
theorem dX1_obey_62 : decode cX1_obey 62 = .ok (.istore 6, 2) := by decide +kernel
theorem dX1_obey_64 : decode cX1_obey 64 = .ok (.aload_n 0, 1) := by decide +kernel
theorem dX1_obey_65 : decode cX1_obey 65 = .ok (.getfield 31, 3) := by decide +kernel
theorem dX1_obey_68 : decode cX1_obey 68 = .ok (.aload_n 1, 1) := by decide +kernel
theorem dX1_obey_69 : decode cX1_obey 69 = .ok (.getfield 67, 3) := by decide +kernel
theorem dX1_obey_72 : decode cX1_obey 72 = .ok (.iload_n 2, 1) := by decide +kernel
theorem dX1_obey_73 : decode cX1_obey 73 = .ok (.iaload, 1) := by decide +kernel
theorem dX1_obey_74 : decode cX1_obey 74 = .ok (.invokestatic 60, 3) := by decide +kernel
theorem dX1_obey_77 : decode cX1_obey 77 = .ok (.istore 7, 2) := by decide +kernel
theorem dX1_obey_79 : decode cX1_obey 79 = .ok (.aload_n 0, 1) := by decide +kernel
theorem dX1_obey_80 : decode cX1_obey 80 = .ok (.iload 5, 2) := by decide +kernel
theorem dX1_obey_82 : decode cX1_obey 82 = .ok (.iload 6, 2) := by decide +kernel
theorem dX1_obey_84 : decode cX1_obey 84 = .ok (.iload 7, 2) := by decide +kernel
theorem dX1_obey_86 : decode cX1_obey 86 = .ok (.aload_n 1, 1) := by decide +kernel
theorem dX1_obey_87 : decode cX1_obey 87 = .ok (.getfield 53, 3) := by decide +kernel
theorem dX1_obey_90 : decode cX1_obey 90 = .ok (.iload_n 2, 1) := by decide +kernel
theorem dX1_obey_91 : decode cX1_obey 91 = .ok (.iaload, 1) := by decide +kernel
theorem dX1_obey_92 : decode cX1_obey 92 = .ok (.iconst 1, 1) := by decide +kernel
theorem dX1_obey_93 : decode cX1_obey 93 = .ok (.if_icmp .ne 7, 3) := by decide +kernel
theorem dX1_obey_96 : decode cX1_obey 96 = .ok (.iconst 1, 1) := by decide +kernel
theorem dX1_obey_97 : decode cX1_obey 97 = .ok (.goto 4, 3) := by decide +kernel
theorem dX1_obey_100 : decode cX1_obey 100 = .ok (.iconst 0, 1) := by decide +kernel
theorem dX1_obey_101 : decode cX1_obey 101 = .ok (.aload_n 3, 1) := by decide +kernel
theorem dX1_obey_102 : decode cX1_obey 102 = .ok (.aload 4, 2) := by decide +kernel
theorem dX1_obey_104 : decode cX1_obey 104 = .ok (.aload_n 0, 1) := by decide +kernel
theorem dX1_obey_105 : decode cX1_obey 105 = .ok (.getfield 37, 3) := by decide +kernel
theorem dX1_obey_108 : decode cX1_obey 108 = .ok (.aaload, 1) := by decide +kernel
theorem dX1_obey_109 : decode cX1_obey 109 = .ok (.invokevirtual 70, 3) := by decide +kernel
theorem dX1_obey_112 : decode cX1_obey 112 = .ok (.ireturn, 1) := by decide +kernel
theorem dX1_difference_0 : decode cX1_difference 0 = .ok (.iload_n 1, 1) := by decide +kernel
theorem dX1_difference_1 : decode cX1_difference 1 = .ok (.iconst (-1), 1) := by decide +kernel
theorem dX1_difference_2 : decode cX1_difference 2 = .ok (.if_icmp .ne 7, 3) := by decide +kernel
theorem dX1_difference_5 : decode cX1_difference 5 = .ok (.iconst 0, 1) := by decide +kernel
theorem dX1_difference_6 : decode cX1_difference 6 = .ok (.goto 6, 3) := by decide +kernel
theorem dX1_difference_9 : decode cX1_difference 9 = .ok (.iload_n 1, 1) := by decide +kernel
theorem dX1_difference_10 : decode cX1_difference 10 = .ok (.iload_n 0, 1) := by decide +kernel
theorem dX1_difference_11 : decode cX1_difference 11 = .ok (.isub, 1) := by decide +kernel
theorem dX1_difference_12 : decode cX1_difference 12 = .ok (.ireturn, 1) := by decide +kernel
theorem dX1_travel_0 : decode cX1_travel 0 = .ok (.aload_n 0, 1) := by decide +kernel
theorem dX1_travel_1 : decode cX1_travel 1 = .ok (.getfield 25, 3) := by decide +kernel
theorem dX1_travel_4 : decode cX1_travel 4 = .ok (.istore 7, 2) := by decide +kernel
theorem dX1_travel_6 : decode cX1_travel 6 = .ok (.aload_n 0, 1) := by decide +kernel
theorem dX1_travel_7 : decode cX1_travel 7 = .ok (.getfield 28, 3) := by decide +kernel
theorem dX1_travel_10 : decode cX1_travel 10 = .ok (.istore 8, 2) := by decide +kernel
theorem dX1_travel_12 : decode cX1_travel 12 = .ok (.aload_n 0, 1) := by decide +kernel
theorem dX1_travel_13 : decode cX1_travel 13 = .ok (.getfield 31, 3) := by decide +kernel
theorem dX1_travel_16 : decode cX1_travel 16 = .ok (.istore 9, 2) := by decide +kernel
theorem dX1_travel_18 : decode cX1_travel 18 = .ok (.iload_n 1, 1) := by decide +kernel
theorem dX1_travel_19 : decode cX1_travel 19 = .ok (.invokestatic 74, 3) := by decide +kernel
theorem dX1_travel_22 : decode cX1_travel 22 = .ok (.iload_n 2, 1) := by decide +kernel
theorem dX1_travel_23 : decode cX1_travel 23 = .ok (.invokestatic 74, 3) := by decide +kernel
theorem dX1_travel_26 : decode cX1_travel 26 = .ok (.iload_n 3, 1) := by decide +kernel
theorem dX1_travel_27 : decode cX1_travel 27 = .ok (.invokestatic 74, 3) := by decide +kernel
theorem dX1_travel_30 : decode cX1_travel 30 = .ok (.invokestatic 80, 3) := by decide +kernel
theorem dX1_travel_33 : decode cX1_travel 33 = .ok (.invokestatic 80, 3) := by decide +kernel
theorem dX1_travel_36 : decode cX1_travel 36 = .ok (.istore 10, 2) := by decide +kernel
theorem dX1_travel_38 : decode cX1_travel 38 = .ok (.iconst 1, 1) := by decide +kernel
theorem dX1_travel_39 : decode cX1_travel 39 = .ok (.istore 11, 2) := by decide +kernel
theorem dX1_travel_41 : decode cX1_travel 41 = .ok (.iload 11, 2) := by decide +kernel
theorem dX1_travel_43 : decode cX1_travel 43 = .ok (.iload 10, 2) := by decide +kernel
theorem dX1_travel_45 : decode cX1_travel 45 = .ok (.if_icmp .gt 98, 3) := by decide +kernel
theorem dX1_travel_48 : decode cX1_travel 48 = .ok (.aload_n 0, 1) := by decide +kernel
theorem dX1_travel_49 : decode cX1_travel 49 = .ok (.iload 7, 2) := by decide +kernel
theorem dX1_travel_51 : decode cX1_travel 51 = .ok (.iload_n 1, 1) := by decide +kernel
theorem dX1_travel_52 : decode cX1_travel 52 = .ok (.iload 11, 2) := by decide +kernel
theorem dX1_travel_54 : decode cX1_travel 54 = .ok (.iload 10, 2) := by decide +kernel
theorem dX1_travel_56 : decode cX1_travel 56 = .ok (.invokestatic 83, 3) := by decide +kernel
theorem dX1_travel_59 : decode cX1_travel 59 = .ok (.putfield 25, 3) := by decide +kernel
theorem dX1_travel_62 : decode cX1_travel 62 = .ok (.aload_n 0, 1) := by decide +kernel
theorem dX1_travel_63 : decode cX1_travel 63 = .ok (.iload 8, 2) := by decide +kernel
theorem dX1_travel_65 : decode cX1_travel 65 = .ok (.iload_n 2, 1) := by decide +kernel
theorem dX1_travel_66 : decode cX1_travel 66 = .ok (.iload 11, 2) := by decide +kernel
theorem dX1_travel_68 : decode cX1_travel 68 = .ok (.iload 10, 2) := by decide +kernel
theorem dX1_travel_70 : decode cX1_travel 70 = .ok (.invokestatic 83, 3) := by decide +kernel
theorem dX1_travel_73 : decode cX1_travel 73 = .ok (.putfield 28, 3) := by decide +kernel
theorem dX1_travel_76 : decode cX1_travel 76 = .ok (.aload_n 0, 1) := by decide +kernel
theorem dX1_travel_77 : decode cX1_travel 77 = .ok (.iload 9, 2) := by decide +kernel
theorem dX1_travel_79 : decode cX1_travel 79 = .ok (.iload_n 3, 1) := by decide +kernel
theorem dX1_travel_80 : decode cX1_travel 80 = .ok (.iload 11, 2) := by decide +kernel
theorem dX1_travel_82 : decode cX1_travel 82 = .ok (.iload 10, 2) := by decide +kernel
theorem dX1_travel_84 : decode cX1_travel 84 = .ok (.invokestatic 83, 3) := by decide +kernel
theorem dX1_travel_87 : decode cX1_travel 87 = .ok (.putfield 31, 3) := by decide +kernel
theorem dX1_travel_90 : decode cX1_travel 90 = .ok (.aload 5, 2) := by decide +kernel
theorem dX1_travel_92 : decode cX1_travel 92 = .ok (.aload 6, 2) := by decide +kernel
theorem dX1_travel_94 : decode cX1_travel 94 = .ok (.aload_n 0, 1) := by decide +kernel
theorem dX1_travel_95 : decode cX1_travel 95 = .ok (.getfield 25, 3) := by decide +kernel
theorem dX1_travel_98 : decode cX1_travel 98 = .ok (.aload_n 0, 1) := by decide +kernel
theorem dX1_travel_99 : decode cX1_travel 99 = .ok (.getfield 28, 3) := by decide +kernel
theorem dX1_travel_102 : decode cX1_travel 102 = .ok (.invokevirtual 87, 3) := by decide +kernel
theorem dX1_travel_105 : decode cX1_travel 105 = .ok (.iload 4, 2) := by decide +kernel
theorem dX1_travel_107 : decode cX1_travel 107 = .ok (.ifCond .eq 14, 3) := by decide +kernel
theorem dX1_travel_110 : decode cX1_travel 110 = .ok (.aload_n 0, 1) := by decide +kernel
theorem dX1_travel_111 : decode cX1_travel 111 = .ok (.aload 5, 2) := by decide +kernel
theorem dX1_travel_113 : decode cX1_travel 113 = .ok (.aload 6, 2) := by decide +kernel
theorem dX1_travel_115 : decode cX1_travel 115 = .ok (.invokevirtual 93, 3) := by decide +kernel
theorem dX1_travel_118 : decode cX1_travel 118 = .ok (.goto 9, 3) := by decide +kernel
theorem dX1_travel_121 : decode cX1_travel 121 = .ok (.aload_n 0, 1) := by decide +kernel
theorem dX1_travel_122 : decode cX1_travel 122 = .ok (.aload 5, 2) := by decide +kernel
theorem dX1_travel_124 : decode cX1_travel 124 = .ok (.invokevirtual 97, 3) := by decide +kernel
theorem dX1_travel_127 : decode cX1_travel 127 = .ok (.istore 12, 2) := by decide +kernel
theorem dX1_travel_129 : decode cX1_travel 129 = .ok (.iload 12, 2) := by decide +kernel
theorem dX1_travel_131 : decode cX1_travel 131 = .ok (.ifCond .eq 6, 3) := by decide +kernel
theorem dX1_travel_134 : decode cX1_travel 134 = .ok (.iload 12, 2) := by decide +kernel
theorem dX1_travel_136 : decode cX1_travel 136 = .ok (.ireturn, 1) := by decide +kernel
theorem dX1_travel_137 : decode cX1_travel 137 = .ok (.iinc 11 1, 3) := by decide +kernel
theorem dX1_travel_140 : decode cX1_travel 140 = .ok (.goto (-99), 3) := by decide +kernel
theorem dX1_travel_143 : decode cX1_travel 143 = .ok (.iconst 0, 1) := by decide +kernel
theorem dX1_travel_144 : decode cX1_travel 144 = .ok (.ireturn, 1) := by decide +kernel
theorem dX1_along_0 : decode cX1_along 0 = .ok (.iload_n 3, 1) := by decide +kernel
theorem dX1_along_1 : decode cX1_along 1 = .ok (.ifCond .le 21, 3) := by decide +kernel
theorem dX1_along_4 : decode cX1_along 4 = .ok (.iload_n 0, 1) := by decide +kernel
theorem dX1_along_5 : decode cX1_along 5 = .ok (.iconst 2, 1) := by decide +kernel
theorem dX1_along_6 : decode cX1_along 6 = .ok (.iload_n 1, 1) := by decide +kernel
theorem dX1_along_7 : decode cX1_along 7 = .ok (.imul, 1) := by decide +kernel
theorem dX1_along_8 : decode cX1_along 8 = .ok (.iload_n 2, 1) := by decide +kernel
theorem dX1_along_9 : decode cX1_along 9 = .ok (.imul, 1) := by decide +kernel
theorem dX1_along_10 : decode cX1_along 10 = .ok (.iload_n 3, 1) := by decide +kernel
theorem dX1_along_11 : decode cX1_along 11 = .ok (.iadd, 1) := by decide +kernel
theorem dX1_along_12 : decode cX1_along 12 = .ok (.iconst 2, 1) := by decide +kernel
theorem dX1_along_13 : decode cX1_along 13 = .ok (.iload_n 3, 1) := by decide +kernel
theorem dX1_along_14 : decode cX1_along 14 = .ok (.imul, 1) := by decide +kernel
theorem dX1_along_15 : decode cX1_along 15 = .ok (.invokestatic 101, 3) := by decide +kernel
theorem dX1_along_18 : decode cX1_along 18 = .ok (.iadd, 1) := by decide +kernel
theorem dX1_along_19 : decode cX1_along 19 = .ok (.goto 4, 3) := by decide +kernel
theorem dX1_along_22 : decode cX1_along 22 = .ok (.iload_n 0, 1) := by decide +kernel
theorem dX1_along_23 : decode cX1_along 23 = .ok (.ireturn, 1) := by decide +kernel
theorem dX1_cutHere_0 : decode cX1_cutHere 0 = .ok (.aload_n 1, 1) := by decide +kernel
theorem dX1_cutHere_1 : decode cX1_cutHere 1 = .ok (.aload_n 0, 1) := by decide +kernel
theorem dX1_cutHere_2 : decode cX1_cutHere 2 = .ok (.getfield 31, 3) := by decide +kernel
theorem dX1_cutHere_5 : decode cX1_cutHere 5 = .ok (.invokevirtual 104, 3) := by decide +kernel
theorem dX1_cutHere_8 : decode cX1_cutHere 8 = .ok (.ifCond .eq 5, 3) := by decide +kernel
theorem dX1_cutHere_11 : decode cX1_cutHere 11 = .ok (.iconst 2, 1) := by decide +kernel
theorem dX1_cutHere_12 : decode cX1_cutHere 12 = .ok (.ireturn, 1) := by decide +kernel
theorem dX1_cutHere_13 : decode cX1_cutHere 13 = .ok (.aload_n 0, 1) := by decide +kernel
theorem dX1_cutHere_14 : decode cX1_cutHere 14 = .ok (.dup, 1) := by decide +kernel
theorem dX1_cutHere_15 : decode cX1_cutHere 15 = .ok (.getfield 34, 3) := by decide +kernel
theorem dX1_cutHere_18 : decode cX1_cutHere 18 = .ok (.aload_n 1, 1) := by decide +kernel
theorem dX1_cutHere_19 : decode cX1_cutHere 19 = .ok (.aload_n 0, 1) := by decide +kernel
theorem dX1_cutHere_20 : decode cX1_cutHere 20 = .ok (.getfield 31, 3) := by decide +kernel
theorem dX1_cutHere_23 : decode cX1_cutHere 23 = .ok (.invokevirtual 108, 3) := by decide +kernel
theorem dX1_cutHere_26 : decode cX1_cutHere 26 = .ok (.iadd, 1) := by decide +kernel
theorem dX1_cutHere_27 : decode cX1_cutHere 27 = .ok (.putfield 34, 3) := by decide +kernel
theorem dX1_cutHere_30 : decode cX1_cutHere 30 = .ok (.aload_n 0, 1) := by decide +kernel
theorem dX1_cutHere_31 : decode cX1_cutHere 31 = .ok (.dup, 1) := by decide +kernel
theorem dX1_cutHere_32 : decode cX1_cutHere 32 = .ok (.getfield 18, 3) := by decide +kernel
theorem dX1_cutHere_35 : decode cX1_cutHere 35 = .ok (.aload_n 2, 1) := by decide +kernel
theorem dX1_cutHere_36 : decode cX1_cutHere 36 = .ok (.getfield 111, 3) := by decide +kernel
theorem dX1_cutHere_39 : decode cX1_cutHere 39 = .ok (.iadd, 1) := by decide +kernel
theorem dX1_cutHere_40 : decode cX1_cutHere 40 = .ok (.putfield 18, 3) := by decide +kernel
theorem dX1_cutHere_43 : decode cX1_cutHere 43 = .ok (.iconst 0, 1) := by decide +kernel
theorem dX1_cutHere_44 : decode cX1_cutHere 44 = .ok (.ireturn, 1) := by decide +kernel
theorem dX1_passHere_0 : decode cX1_passHere 0 = .ok (.aload_n 1, 1) := by decide +kernel
theorem dX1_passHere_1 : decode cX1_passHere 1 = .ok (.aload_n 0, 1) := by decide +kernel
theorem dX1_passHere_2 : decode cX1_passHere 2 = .ok (.getfield 31, 3) := by decide +kernel
theorem dX1_passHere_5 : decode cX1_passHere 5 = .ok (.invokevirtual 116, 3) := by decide +kernel
theorem dX1_passHere_8 : decode cX1_passHere 8 = .ok (.ifCond .eq 5, 3) := by decide +kernel
theorem dX1_passHere_11 : decode cX1_passHere 11 = .ok (.iconst 1, 1) := by decide +kernel
theorem dX1_passHere_12 : decode cX1_passHere 12 = .ok (.ireturn, 1) := by decide +kernel
theorem dX1_passHere_13 : decode cX1_passHere 13 = .ok (.aload_n 0, 1) := by decide +kernel
theorem dX1_passHere_14 : decode cX1_passHere 14 = .ok (.dup, 1) := by decide +kernel
theorem dX1_passHere_15 : decode cX1_passHere 15 = .ok (.getfield 18, 3) := by decide +kernel
theorem dX1_passHere_18 : decode cX1_passHere 18 = .ok (.iconst 1, 1) := by decide +kernel
theorem dX1_passHere_19 : decode cX1_passHere 19 = .ok (.iadd, 1) := by decide +kernel
theorem dX1_passHere_20 : decode cX1_passHere 20 = .ok (.putfield 18, 3) := by decide +kernel
theorem dX1_passHere_23 : decode cX1_passHere 23 = .ok (.iconst 0, 1) := by decide +kernel
theorem dX1_passHere_24 : decode cX1_passHere 24 = .ok (.ireturn, 1) := by decide +kernel
theorem dX2_init_0 : decode cX2_init 0 = .ok (.aload_n 0, 1) := by decide +kernel
theorem dX2_init_1 : decode cX2_init 1 = .ok (.invokespecial 1, 3) := by decide +kernel
theorem dX2_init_4 : decode cX2_init 4 = .ok (.aload_n 0, 1) := by decide +kernel
theorem dX2_init_5 : decode cX2_init 5 = .ok (.iload_n 1, 1) := by decide +kernel
theorem dX2_init_6 : decode cX2_init 6 = .ok (.putfield 7, 3) := by decide +kernel
theorem dX2_init_9 : decode cX2_init 9 = .ok (.aload_n 0, 1) := by decide +kernel
theorem dX2_init_10 : decode cX2_init 10 = .ok (.iload_n 1, 1) := by decide +kernel
theorem dX2_init_11 : decode cX2_init 11 = .ok (.iload_n 1, 1) := by decide +kernel
theorem dX2_init_12 : decode cX2_init 12 = .ok (.imul, 1) := by decide +kernel
theorem dX2_init_13 : decode cX2_init 13 = .ok (.putfield 13, 3) := by decide +kernel
theorem dX2_init_16 : decode cX2_init 16 = .ok (.aload_n 0, 1) := by decide +kernel
theorem dX2_init_17 : decode cX2_init 17 = .ok (.aload_n 0, 1) := by decide +kernel
theorem dX2_init_18 : decode cX2_init 18 = .ok (.getfield 13, 3) := by decide +kernel
theorem dX2_init_21 : decode cX2_init 21 = .ok (.newarray .boolean, 2) := by decide +kernel
theorem dX2_init_23 : decode cX2_init 23 = .ok (.putfield 16, 3) := by decide +kernel
theorem dX2_init_26 : decode cX2_init 26 = .ok (.aload_n 0, 1) := by decide +kernel
theorem dX2_init_27 : decode cX2_init 27 = .ok (.aload_n 0, 1) := by decide +kernel
theorem dX2_init_28 : decode cX2_init 28 = .ok (.getfield 13, 3) := by decide +kernel
theorem dX2_init_31 : decode cX2_init 31 = .ok (.newarray .int, 2) := by decide +kernel
theorem dX2_init_33 : decode cX2_init 33 = .ok (.putfield 20, 3) := by decide +kernel
theorem dX2_init_36 : decode cX2_init 36 = .ok (.aload_n 0, 1) := by decide +kernel
theorem dX2_init_37 : decode cX2_init 37 = .ok (.aload_n 0, 1) := by decide +kernel
theorem dX2_init_38 : decode cX2_init 38 = .ok (.getfield 13, 3) := by decide +kernel
theorem dX2_init_41 : decode cX2_init 41 = .ok (.newarray .int, 2) := by decide +kernel
theorem dX2_init_43 : decode cX2_init 43 = .ok (.putfield 24, 3) := by decide +kernel
theorem dX2_init_46 : decode cX2_init 46 = .ok (.aload_n 0, 1) := by decide +kernel
theorem dX2_init_47 : decode cX2_init 47 = .ok (.iconst 0, 1) := by decide +kernel
theorem dX2_init_48 : decode cX2_init 48 = .ok (.putfield 27, 3) := by decide +kernel
theorem dX2_init_51 : decode cX2_init 51 = .ok (.return_, 1) := by decide +kernel
theorem dX2_count_0 : decode cX2_count 0 = .ok (.iconst 0, 1) := by decide +kernel
theorem dX2_count_1 : decode cX2_count 1 = .ok (.istore_n 2, 1) := by decide +kernel
theorem dX2_count_2 : decode cX2_count 2 = .ok (.iload_n 2, 1) := by decide +kernel
theorem dX2_count_3 : decode cX2_count 3 = .ok (.aload_n 0, 1) := by decide +kernel
theorem dX2_count_4 : decode cX2_count 4 = .ok (.getfield 13, 3) := by decide +kernel
theorem dX2_count_7 : decode cX2_count 7 = .ok (.if_icmp .ge 16, 3) := by decide +kernel
theorem dX2_count_10 : decode cX2_count 10 = .ok (.aload_n 0, 1) := by decide +kernel
theorem dX2_count_11 : decode cX2_count 11 = .ok (.getfield 16, 3) := by decide +kernel
theorem dX2_count_14 : decode cX2_count 14 = .ok (.iload_n 2, 1) := by decide +kernel
theorem dX2_count_15 : decode cX2_count 15 = .ok (.iconst 0, 1) := by decide +kernel
theorem dX2_count_16 : decode cX2_count 16 = .ok (.bastore, 1) := by decide +kernel
theorem dX2_count_17 : decode cX2_count 17 = .ok (.iinc 2 1, 3) := by decide +kernel
theorem dX2_count_20 : decode cX2_count 20 = .ok (.goto (-18), 3) := by decide +kernel
theorem dX2_count_23 : decode cX2_count 23 = .ok (.aload_n 0, 1) := by decide +kernel
theorem dX2_count_24 : decode cX2_count 24 = .ok (.iconst 0, 1) := by decide +kernel
theorem dX2_count_25 : decode cX2_count 25 = .ok (.putfield 27, 3) := by decide +kernel
theorem dX2_count_28 : decode cX2_count 28 = .ok (.iconst 0, 1) := by decide +kernel
theorem dX2_count_29 : decode cX2_count 29 = .ok (.istore_n 2, 1) := by decide +kernel
theorem dX2_count_30 : decode cX2_count 30 = .ok (.iconst 0, 1) := by decide +kernel
theorem dX2_count_31 : decode cX2_count 31 = .ok (.istore_n 3, 1) := by decide +kernel
theorem dX2_count_32 : decode cX2_count 32 = .ok (.iload_n 3, 1) := by decide +kernel
theorem dX2_count_33 : decode cX2_count 33 = .ok (.aload_n 0, 1) := by decide +kernel
theorem dX2_count_34 : decode cX2_count 34 = .ok (.getfield 7, 3) := by decide +kernel
theorem dX2_count_37 : decode cX2_count 37 = .ok (.if_icmp .ge 60, 3) := by decide +kernel
theorem dX2_count_40 : decode cX2_count 40 = .ok (.iconst 0, 1) := by decide +kernel
theorem dX2_count_41 : decode cX2_count 41 = .ok (.istore 4, 2) := by decide +kernel
theorem dX2_count_43 : decode cX2_count 43 = .ok (.iload 4, 2) := by decide +kernel
theorem dX2_count_45 : decode cX2_count 45 = .ok (.aload_n 0, 1) := by decide +kernel
theorem dX2_count_46 : decode cX2_count 46 = .ok (.getfield 7, 3) := by decide +kernel
theorem dX2_count_49 : decode cX2_count 49 = .ok (.if_icmp .ge 42, 3) := by decide +kernel
theorem dX2_count_52 : decode cX2_count 52 = .ok (.aload_n 0, 1) := by decide +kernel
theorem dX2_count_53 : decode cX2_count 53 = .ok (.getfield 27, 3) := by decide +kernel
theorem dX2_count_56 : decode cX2_count 56 = .ok (.istore 5, 2) := by decide +kernel
theorem dX2_count_58 : decode cX2_count 58 = .ok (.aload_n 0, 1) := by decide +kernel
theorem dX2_count_59 : decode cX2_count 59 = .ok (.aload_n 1, 1) := by decide +kernel
theorem dX2_count_60 : decode cX2_count 60 = .ok (.iload 4, 2) := by decide +kernel
theorem dX2_count_62 : decode cX2_count 62 = .ok (.iload_n 3, 1) := by decide +kernel
theorem dX2_count_63 : decode cX2_count 63 = .ok (.invokevirtual 30, 3) := by decide +kernel
theorem dX2_count_66 : decode cX2_count 66 = .ok (.aload_n 0, 1) := by decide +kernel
theorem dX2_count_67 : decode cX2_count 67 = .ok (.getfield 27, 3) := by decide +kernel
theorem dX2_count_70 : decode cX2_count 70 = .ok (.iload 5, 2) := by decide +kernel
theorem dX2_count_72 : decode cX2_count 72 = .ok (.if_icmp .le 13, 3) := by decide +kernel
theorem dX2_count_75 : decode cX2_count 75 = .ok (.iinc 2 1, 3) := by decide +kernel
theorem dX2_count_78 : decode cX2_count 78 = .ok (.aload_n 0, 1) := by decide +kernel
theorem dX2_count_79 : decode cX2_count 79 = .ok (.aload_n 1, 1) := by decide +kernel
theorem dX2_count_80 : decode cX2_count 80 = .ok (.iload 5, 2) := by decide +kernel
theorem dX2_count_82 : decode cX2_count 82 = .ok (.invokevirtual 34, 3) := by decide +kernel
theorem dX2_count_85 : decode cX2_count 85 = .ok (.iinc 4 1, 3) := by decide +kernel
theorem dX2_count_88 : decode cX2_count 88 = .ok (.goto (-45), 3) := by decide +kernel
theorem dX2_count_91 : decode cX2_count 91 = .ok (.iinc 3 1, 3) := by decide +kernel
theorem dX2_count_94 : decode cX2_count 94 = .ok (.goto (-62), 3) := by decide +kernel
theorem dX2_count_97 : decode cX2_count 97 = .ok (.iload_n 2, 1) := by decide +kernel
theorem dX2_count_98 : decode cX2_count 98 = .ok (.ireturn, 1) := by decide +kernel
theorem dX2_spread_0 : decode cX2_spread 0 = .ok (.iload_n 2, 1) := by decide +kernel
theorem dX2_spread_1 : decode cX2_spread 1 = .ok (.istore_n 3, 1) := by decide +kernel
theorem dX2_spread_2 : decode cX2_spread 2 = .ok (.iload_n 3, 1) := by decide +kernel
theorem dX2_spread_3 : decode cX2_spread 3 = .ok (.aload_n 0, 1) := by decide +kernel
theorem dX2_spread_4 : decode cX2_spread 4 = .ok (.getfield 27, 3) := by decide +kernel
theorem dX2_spread_7 : decode cX2_spread 7 = .ok (.if_icmp .ge 77, 3) := by decide +kernel
theorem dX2_spread_10 : decode cX2_spread 10 = .ok (.iload_n 3, 1) := by decide +kernel
theorem dX2_spread_11 : decode cX2_spread 11 = .ok (.aload_n 0, 1) := by decide +kernel
theorem dX2_spread_12 : decode cX2_spread 12 = .ok (.getfield 13, 3) := by decide +kernel
theorem dX2_spread_15 : decode cX2_spread 15 = .ok (.if_icmp .ge 69, 3) := by decide +kernel
theorem dX2_spread_18 : decode cX2_spread 18 = .ok (.aload_n 0, 1) := by decide +kernel
theorem dX2_spread_19 : decode cX2_spread 19 = .ok (.getfield 20, 3) := by decide +kernel
theorem dX2_spread_22 : decode cX2_spread 22 = .ok (.iload_n 3, 1) := by decide +kernel
theorem dX2_spread_23 : decode cX2_spread 23 = .ok (.iaload, 1) := by decide +kernel
theorem dX2_spread_24 : decode cX2_spread 24 = .ok (.istore 4, 2) := by decide +kernel
theorem dX2_spread_26 : decode cX2_spread 26 = .ok (.aload_n 0, 1) := by decide +kernel
theorem dX2_spread_27 : decode cX2_spread 27 = .ok (.getfield 24, 3) := by decide +kernel
theorem dX2_spread_30 : decode cX2_spread 30 = .ok (.iload_n 3, 1) := by decide +kernel
theorem dX2_spread_31 : decode cX2_spread 31 = .ok (.iaload, 1) := by decide +kernel
theorem dX2_spread_32 : decode cX2_spread 32 = .ok (.istore 5, 2) := by decide +kernel
theorem dX2_spread_34 : decode cX2_spread 34 = .ok (.aload_n 0, 1) := by decide +kernel
theorem dX2_spread_35 : decode cX2_spread 35 = .ok (.aload_n 1, 1) := by decide +kernel
theorem dX2_spread_36 : decode cX2_spread 36 = .ok (.iload 4, 2) := by decide +kernel
theorem dX2_spread_38 : decode cX2_spread 38 = .ok (.iconst 1, 1) := by decide +kernel
theorem dX2_spread_39 : decode cX2_spread 39 = .ok (.isub, 1) := by decide +kernel
theorem dX2_spread_40 : decode cX2_spread 40 = .ok (.iload 5, 2) := by decide +kernel
theorem dX2_spread_42 : decode cX2_spread 42 = .ok (.invokevirtual 30, 3) := by decide +kernel
theorem dX2_spread_45 : decode cX2_spread 45 = .ok (.aload_n 0, 1) := by decide +kernel
theorem dX2_spread_46 : decode cX2_spread 46 = .ok (.aload_n 1, 1) := by decide +kernel
theorem dX2_spread_47 : decode cX2_spread 47 = .ok (.iload 4, 2) := by decide +kernel
theorem dX2_spread_49 : decode cX2_spread 49 = .ok (.iconst 1, 1) := by decide +kernel
theorem dX2_spread_50 : decode cX2_spread 50 = .ok (.iadd, 1) := by decide +kernel
theorem dX2_spread_51 : decode cX2_spread 51 = .ok (.iload 5, 2) := by decide +kernel
theorem dX2_spread_53 : decode cX2_spread 53 = .ok (.invokevirtual 30, 3) := by decide +kernel
theorem dX2_spread_56 : decode cX2_spread 56 = .ok (.aload_n 0, 1) := by decide +kernel
theorem dX2_spread_57 : decode cX2_spread 57 = .ok (.aload_n 1, 1) := by decide +kernel
theorem dX2_spread_58 : decode cX2_spread 58 = .ok (.iload 4, 2) := by decide +kernel
theorem dX2_spread_60 : decode cX2_spread 60 = .ok (.iload 5, 2) := by decide +kernel
theorem dX2_spread_62 : decode cX2_spread 62 = .ok (.iconst 1, 1) := by decide +kernel
theorem dX2_spread_63 : decode cX2_spread 63 = .ok (.isub, 1) := by decide +kernel
theorem dX2_spread_64 : decode cX2_spread 64 = .ok (.invokevirtual 30, 3) := by decide +kernel
theorem dX2_spread_67 : decode cX2_spread 67 = .ok (.aload_n 0, 1) := by decide +kernel
theorem dX2_spread_68 : decode cX2_spread 68 = .ok (.aload_n 1, 1) := by decide +kernel
theorem dX2_spread_69 : decode cX2_spread 69 = .ok (.iload 4, 2) := by decide +kernel
theorem dX2_spread_71 : decode cX2_spread 71 = .ok (.iload 5, 2) := by decide +kernel
theorem dX2_spread_73 : decode cX2_spread 73 = .ok (.iconst 1, 1) := by decide +kernel
theorem dX2_spread_74 : decode cX2_spread 74 = .ok (.iadd, 1) := by decide +kernel
theorem dX2_spread_75 : decode cX2_spread 75 = .ok (.invokevirtual 30, 3) := by decide +kernel
theorem dX2_spread_78 : decode cX2_spread 78 = .ok (.iinc 3 1, 3) := by decide +kernel
theorem dX2_spread_81 : decode cX2_spread 81 = .ok (.goto (-79), 3) := by decide +kernel
theorem dX2_spread_84 : decode cX2_spread 84 = .ok (.return_, 1) := by decide +kernel
theorem dX2_take_0 : decode cX2_take 0 = .ok (.aload_n 1, 1) := by decide +kernel
theorem dX2_take_1 : decode cX2_take 1 = .ok (.iload_n 2, 1) := by decide +kernel
theorem dX2_take_2 : decode cX2_take 2 = .ok (.iload_n 3, 1) := by decide +kernel
theorem dX2_take_3 : decode cX2_take 3 = .ok (.invokevirtual 38, 3) := by decide +kernel
theorem dX2_take_6 : decode cX2_take 6 = .ok (.ifCond .eq 14, 3) := by decide +kernel
theorem dX2_take_9 : decode cX2_take 9 = .ok (.aload_n 0, 1) := by decide +kernel
theorem dX2_take_10 : decode cX2_take 10 = .ok (.getfield 27, 3) := by decide +kernel
theorem dX2_take_13 : decode cX2_take 13 = .ok (.aload_n 0, 1) := by decide +kernel
theorem dX2_take_14 : decode cX2_take 14 = .ok (.getfield 13, 3) := by decide +kernel
theorem dX2_take_17 : decode cX2_take 17 = .ok (.if_icmp .lt 4, 3) := by decide +kernel
theorem dX2_take_20 : decode cX2_take 20 = .ok (.return_, 1) := by decide +kernel
theorem dX2_take_21 : decode cX2_take 21 = .ok (.aload_n 1, 1) := by decide +kernel
theorem dX2_take_22 : decode cX2_take 22 = .ok (.iload_n 2, 1) := by decide +kernel
theorem dX2_take_23 : decode cX2_take 23 = .ok (.iload_n 3, 1) := by decide +kernel
theorem dX2_take_24 : decode cX2_take 24 = .ok (.invokevirtual 44, 3) := by decide +kernel
theorem dX2_take_27 : decode cX2_take 27 = .ok (.istore 4, 2) := by decide +kernel
theorem dX2_take_29 : decode cX2_take 29 = .ok (.aload_n 0, 1) := by decide +kernel
theorem dX2_take_30 : decode cX2_take 30 = .ok (.getfield 16, 3) := by decide +kernel
theorem dX2_take_33 : decode cX2_take 33 = .ok (.iload 4, 2) := by decide +kernel
theorem dX2_take_35 : decode cX2_take 35 = .ok (.baload, 1) := by decide +kernel
theorem dX2_take_36 : decode cX2_take 36 = .ok (.ifCond .ne 51, 3) := by decide +kernel
theorem dX2_take_39 : decode cX2_take 39 = .ok (.aload_n 1, 1) := by decide +kernel
theorem dX2_take_40 : decode cX2_take 40 = .ok (.getfield 48, 3) := by decide +kernel
theorem dX2_take_43 : decode cX2_take 43 = .ok (.iload 4, 2) := by decide +kernel
theorem dX2_take_45 : decode cX2_take 45 = .ok (.iaload, 1) := by decide +kernel
theorem dX2_take_46 : decode cX2_take 46 = .ok (.ifCond .le 41, 3) := by decide +kernel
theorem dX2_take_49 : decode cX2_take 49 = .ok (.aload_n 0, 1) := by decide +kernel
theorem dX2_take_50 : decode cX2_take 50 = .ok (.getfield 16, 3) := by decide +kernel
theorem dX2_take_53 : decode cX2_take 53 = .ok (.iload 4, 2) := by decide +kernel
theorem dX2_take_55 : decode cX2_take 55 = .ok (.iconst 1, 1) := by decide +kernel
theorem dX2_take_56 : decode cX2_take 56 = .ok (.bastore, 1) := by decide +kernel
theorem dX2_take_57 : decode cX2_take 57 = .ok (.aload_n 0, 1) := by decide +kernel
theorem dX2_take_58 : decode cX2_take 58 = .ok (.getfield 20, 3) := by decide +kernel
theorem dX2_take_61 : decode cX2_take 61 = .ok (.aload_n 0, 1) := by decide +kernel
theorem dX2_take_62 : decode cX2_take 62 = .ok (.getfield 27, 3) := by decide +kernel
theorem dX2_take_65 : decode cX2_take 65 = .ok (.iload_n 2, 1) := by decide +kernel
theorem dX2_take_66 : decode cX2_take 66 = .ok (.iastore, 1) := by decide +kernel
theorem dX2_take_67 : decode cX2_take 67 = .ok (.aload_n 0, 1) := by decide +kernel
theorem dX2_take_68 : decode cX2_take 68 = .ok (.getfield 24, 3) := by decide +kernel
theorem dX2_take_71 : decode cX2_take 71 = .ok (.aload_n 0, 1) := by decide +kernel
theorem dX2_take_72 : decode cX2_take 72 = .ok (.getfield 27, 3) := by decide +kernel
theorem dX2_take_75 : decode cX2_take 75 = .ok (.iload_n 3, 1) := by decide +kernel
theorem dX2_take_76 : decode cX2_take 76 = .ok (.iastore, 1) := by decide +kernel
theorem dX2_take_77 : decode cX2_take 77 = .ok (.aload_n 0, 1) := by decide +kernel
theorem dX2_take_78 : decode cX2_take 78 = .ok (.dup, 1) := by decide +kernel
theorem dX2_take_79 : decode cX2_take 79 = .ok (.getfield 27, 3) := by decide +kernel
theorem dX2_take_82 : decode cX2_take 82 = .ok (.iconst 1, 1) := by decide +kernel
theorem dX2_take_83 : decode cX2_take 83 = .ok (.iadd, 1) := by decide +kernel
theorem dX2_take_84 : decode cX2_take 84 = .ok (.putfield 27, 3) := by decide +kernel
theorem dX2_take_87 : decode cX2_take 87 = .ok (.return_, 1) := by decide +kernel
theorem dX3_init_0 : decode cX3_init 0 = .ok (.aload_n 0, 1) := by decide +kernel
theorem dX3_init_1 : decode cX3_init 1 = .ok (.invokespecial 3, 3) := by decide +kernel
theorem dX3_init_4 : decode cX3_init 4 = .ok (.aload_n 0, 1) := by decide +kernel
theorem dX3_init_5 : decode cX3_init 5 = .ok (.iconst 0, 1) := by decide +kernel
theorem dX3_init_6 : decode cX3_init 6 = .ok (.putfield 9, 3) := by decide +kernel
theorem dX3_init_9 : decode cX3_init 9 = .ok (.aload_n 0, 1) := by decide +kernel
theorem dX3_init_10 : decode cX3_init 10 = .ok (.bipush 32, 2) := by decide +kernel
theorem dX3_init_12 : decode cX3_init 12 = .ok (.newarray .char, 2) := by decide +kernel
theorem dX3_init_14 : decode cX3_init 14 = .ok (.putfield 15, 3) := by decide +kernel
theorem dX3_init_17 : decode cX3_init 17 = .ok (.aload_n 0, 1) := by decide +kernel
theorem dX3_init_18 : decode cX3_init 18 = .ok (.bipush 32, 2) := by decide +kernel
theorem dX3_init_20 : decode cX3_init 20 = .ok (.newarray .int, 2) := by decide +kernel
theorem dX3_init_22 : decode cX3_init 22 = .ok (.putfield 19, 3) := by decide +kernel
theorem dX3_init_25 : decode cX3_init 25 = .ok (.aload_n 0, 1) := by decide +kernel
theorem dX3_init_26 : decode cX3_init 26 = .ok (.bipush 32, 2) := by decide +kernel
theorem dX3_init_28 : decode cX3_init 28 = .ok (.newarray .int, 2) := by decide +kernel
theorem dX3_init_30 : decode cX3_init 30 = .ok (.putfield 23, 3) := by decide +kernel
theorem dX3_init_33 : decode cX3_init 33 = .ok (.aload_n 0, 1) := by decide +kernel
theorem dX3_init_34 : decode cX3_init 34 = .ok (.bipush 32, 2) := by decide +kernel
theorem dX3_init_36 : decode cX3_init 36 = .ok (.newarray .int, 2) := by decide +kernel
theorem dX3_init_38 : decode cX3_init 38 = .ok (.putfield 26, 3) := by decide +kernel
theorem dX3_init_41 : decode cX3_init 41 = .ok (.aload_n 0, 1) := by decide +kernel
theorem dX3_init_42 : decode cX3_init 42 = .ok (.bipush 32, 2) := by decide +kernel
theorem dX3_init_44 : decode cX3_init 44 = .ok (.newarray .int, 2) := by decide +kernel
theorem dX3_init_46 : decode cX3_init 46 = .ok (.putfield 29, 3) := by decide +kernel
theorem dX3_init_49 : decode cX3_init 49 = .ok (.return_, 1) := by decide +kernel
theorem dX3_clear_0 : decode cX3_clear 0 = .ok (.aload_n 0, 1) := by decide +kernel
theorem dX3_clear_1 : decode cX3_clear 1 = .ok (.iconst 0, 1) := by decide +kernel
theorem dX3_clear_2 : decode cX3_clear 2 = .ok (.putfield 9, 3) := by decide +kernel
theorem dX3_clear_5 : decode cX3_clear 5 = .ok (.return_, 1) := by decide +kernel
theorem dX3_add_0 : decode cX3_add 0 = .ok (.aload_n 0, 1) := by decide +kernel
theorem dX3_add_1 : decode cX3_add 1 = .ok (.getfield 9, 3) := by decide +kernel
theorem dX3_add_4 : decode cX3_add 4 = .ok (.bipush 32, 2) := by decide +kernel
theorem dX3_add_6 : decode cX3_add 6 = .ok (.if_icmp .ge 65, 3) := by decide +kernel
theorem dX3_add_9 : decode cX3_add 9 = .ok (.aload_n 0, 1) := by decide +kernel
theorem dX3_add_10 : decode cX3_add 10 = .ok (.getfield 15, 3) := by decide +kernel
theorem dX3_add_13 : decode cX3_add 13 = .ok (.aload_n 0, 1) := by decide +kernel
theorem dX3_add_14 : decode cX3_add 14 = .ok (.getfield 9, 3) := by decide +kernel
theorem dX3_add_17 : decode cX3_add 17 = .ok (.iload_n 1, 1) := by decide +kernel
theorem dX3_add_18 : decode cX3_add 18 = .ok (.castore, 1) := by decide +kernel
theorem dX3_add_19 : decode cX3_add 19 = .ok (.aload_n 0, 1) := by decide +kernel
theorem dX3_add_20 : decode cX3_add 20 = .ok (.getfield 19, 3) := by decide +kernel
theorem dX3_add_23 : decode cX3_add 23 = .ok (.aload_n 0, 1) := by decide +kernel
theorem dX3_add_24 : decode cX3_add 24 = .ok (.getfield 9, 3) := by decide +kernel
theorem dX3_add_27 : decode cX3_add 27 = .ok (.iload_n 2, 1) := by decide +kernel
theorem dX3_add_28 : decode cX3_add 28 = .ok (.iastore, 1) := by decide +kernel
theorem dX3_add_29 : decode cX3_add 29 = .ok (.aload_n 0, 1) := by decide +kernel
theorem dX3_add_30 : decode cX3_add 30 = .ok (.getfield 23, 3) := by decide +kernel
theorem dX3_add_33 : decode cX3_add 33 = .ok (.aload_n 0, 1) := by decide +kernel
theorem dX3_add_34 : decode cX3_add 34 = .ok (.getfield 9, 3) := by decide +kernel
theorem dX3_add_37 : decode cX3_add 37 = .ok (.iload_n 3, 1) := by decide +kernel
theorem dX3_add_38 : decode cX3_add 38 = .ok (.iastore, 1) := by decide +kernel
theorem dX3_add_39 : decode cX3_add 39 = .ok (.aload_n 0, 1) := by decide +kernel
theorem dX3_add_40 : decode cX3_add 40 = .ok (.getfield 26, 3) := by decide +kernel
theorem dX3_add_43 : decode cX3_add 43 = .ok (.aload_n 0, 1) := by decide +kernel
theorem dX3_add_44 : decode cX3_add 44 = .ok (.getfield 9, 3) := by decide +kernel
theorem dX3_add_47 : decode cX3_add 47 = .ok (.iload 4, 2) := by decide +kernel
theorem dX3_add_49 : decode cX3_add 49 = .ok (.iastore, 1) := by decide +kernel
theorem dX3_add_50 : decode cX3_add 50 = .ok (.aload_n 0, 1) := by decide +kernel
theorem dX3_add_51 : decode cX3_add 51 = .ok (.getfield 29, 3) := by decide +kernel
theorem dX3_add_54 : decode cX3_add 54 = .ok (.aload_n 0, 1) := by decide +kernel
theorem dX3_add_55 : decode cX3_add 55 = .ok (.getfield 9, 3) := by decide +kernel
theorem dX3_add_58 : decode cX3_add 58 = .ok (.iload 5, 2) := by decide +kernel
theorem dX3_add_60 : decode cX3_add 60 = .ok (.iastore, 1) := by decide +kernel
theorem dX3_add_61 : decode cX3_add 61 = .ok (.aload_n 0, 1) := by decide +kernel
theorem dX3_add_62 : decode cX3_add 62 = .ok (.dup, 1) := by decide +kernel
theorem dX3_add_63 : decode cX3_add 63 = .ok (.getfield 9, 3) := by decide +kernel
theorem dX3_add_66 : decode cX3_add 66 = .ok (.iconst 1, 1) := by decide +kernel
theorem dX3_add_67 : decode cX3_add 67 = .ok (.iadd, 1) := by decide +kernel
theorem dX3_add_68 : decode cX3_add 68 = .ok (.putfield 9, 3) := by decide +kernel
theorem dX3_add_71 : decode cX3_add 71 = .ok (.return_, 1) := by decide +kernel
theorem dX4_init_0 : decode cX4_init 0 = .ok (.aload_n 0, 1) := by decide +kernel
theorem dX4_init_1 : decode cX4_init 1 = .ok (.invokespecial 3, 3) := by decide +kernel
theorem dX4_init_4 : decode cX4_init 4 = .ok (.aload_n 0, 1) := by decide +kernel
theorem dX4_init_5 : decode cX4_init 5 = .ok (.iload_n 1, 1) := by decide +kernel
theorem dX4_init_6 : decode cX4_init 6 = .ok (.putfield 9, 3) := by decide +kernel
theorem dX4_init_9 : decode cX4_init 9 = .ok (.aload_n 0, 1) := by decide +kernel
theorem dX4_init_10 : decode cX4_init 10 = .ok (.sipush 240, 3) := by decide +kernel
theorem dX4_init_13 : decode cX4_init 13 = .ok (.newarray .int, 2) := by decide +kernel
theorem dX4_init_15 : decode cX4_init 15 = .ok (.putfield 15, 3) := by decide +kernel
theorem dX4_init_18 : decode cX4_init 18 = .ok (.aload_n 0, 1) := by decide +kernel
theorem dX4_init_19 : decode cX4_init 19 = .ok (.iconst 0, 1) := by decide +kernel
theorem dX4_init_20 : decode cX4_init 20 = .ok (.putfield 19, 3) := by decide +kernel
theorem dX4_init_23 : decode cX4_init 23 = .ok (.aload_n 0, 1) := by decide +kernel
theorem dX4_init_24 : decode cX4_init 24 = .ok (.iconst 0, 1) := by decide +kernel
theorem dX4_init_25 : decode cX4_init 25 = .ok (.putfield 22, 3) := by decide +kernel
theorem dX4_init_28 : decode cX4_init 28 = .ok (.return_, 1) := by decide +kernel
theorem dX4_append_0 : decode cX4_append 0 = .ok (.aload_n 0, 1) := by decide +kernel
theorem dX4_append_1 : decode cX4_append 1 = .ok (.getfield 19, 3) := by decide +kernel
theorem dX4_append_4 : decode cX4_append 4 = .ok (.sipush 240, 3) := by decide +kernel
theorem dX4_append_7 : decode cX4_append 7 = .ok (.if_icmp .ge 15, 3) := by decide +kernel
theorem dX4_append_10 : decode cX4_append 10 = .ok (.iload_n 1, 1) := by decide +kernel
theorem dX4_append_11 : decode cX4_append 11 = .ok (.bipush 32, 2) := by decide +kernel
theorem dX4_append_13 : decode cX4_append 13 = .ok (.if_icmp .lt 9, 3) := by decide +kernel
theorem dX4_append_16 : decode cX4_append 16 = .ok (.iload_n 1, 1) := by decide +kernel
theorem dX4_append_17 : decode cX4_append 17 = .ok (.bipush 126, 2) := by decide +kernel
theorem dX4_append_19 : decode cX4_append 19 = .ok (.if_icmp .le 5, 3) := by decide +kernel
theorem dX4_append_22 : decode cX4_append 22 = .ok (.iconst 0, 1) := by decide +kernel
theorem dX4_append_23 : decode cX4_append 23 = .ok (.ireturn, 1) := by decide +kernel
theorem dX4_append_24 : decode cX4_append 24 = .ok (.aload_n 0, 1) := by decide +kernel
theorem dX4_append_25 : decode cX4_append 25 = .ok (.getfield 15, 3) := by decide +kernel
theorem dX4_append_28 : decode cX4_append 28 = .ok (.aload_n 0, 1) := by decide +kernel
theorem dX4_append_29 : decode cX4_append 29 = .ok (.getfield 19, 3) := by decide +kernel
theorem dX4_append_32 : decode cX4_append 32 = .ok (.iload_n 1, 1) := by decide +kernel
theorem dX4_append_33 : decode cX4_append 33 = .ok (.iastore, 1) := by decide +kernel
theorem dX4_append_34 : decode cX4_append 34 = .ok (.aload_n 0, 1) := by decide +kernel
theorem dX4_append_35 : decode cX4_append 35 = .ok (.dup, 1) := by decide +kernel
theorem dX4_append_36 : decode cX4_append 36 = .ok (.getfield 19, 3) := by decide +kernel
theorem dX4_append_39 : decode cX4_append 39 = .ok (.iconst 1, 1) := by decide +kernel
theorem dX4_append_40 : decode cX4_append 40 = .ok (.iadd, 1) := by decide +kernel
theorem dX4_append_41 : decode cX4_append 41 = .ok (.putfield 19, 3) := by decide +kernel
theorem dX4_append_44 : decode cX4_append 44 = .ok (.iconst 1, 1) := by decide +kernel
theorem dX4_append_45 : decode cX4_append 45 = .ok (.ireturn, 1) := by decide +kernel
theorem dX4_parse_0 : decode cX4_parse 0 = .ok (.aload_n 0, 1) := by decide +kernel
theorem dX4_parse_1 : decode cX4_parse 1 = .ok (.iconst 0, 1) := by decide +kernel
theorem dX4_parse_2 : decode cX4_parse 2 = .ok (.putfield 22, 3) := by decide +kernel
theorem dX4_parse_5 : decode cX4_parse 5 = .ok (.aload_n 1, 1) := by decide +kernel
theorem dX4_parse_6 : decode cX4_parse 6 = .ok (.invokevirtual 25, 3) := by decide +kernel
theorem dX4_parse_9 : decode cX4_parse 9 = .ok (.aload_n 0, 1) := by decide +kernel
theorem dX4_parse_10 : decode cX4_parse 10 = .ok (.aload_n 1, 1) := by decide +kernel
theorem dX4_parse_11 : decode cX4_parse 11 = .ok (.invokevirtual 30, 3) := by decide +kernel
theorem dX4_parse_14 : decode cX4_parse 14 = .ok (.istore_n 2, 1) := by decide +kernel
theorem dX4_parse_15 : decode cX4_parse 15 = .ok (.iconst 1, 1) := by decide +kernel
theorem dX4_parse_16 : decode cX4_parse 16 = .ok (.istore_n 3, 1) := by decide +kernel
theorem dX4_parse_17 : decode cX4_parse 17 = .ok (.iload_n 3, 1) := by decide +kernel
theorem dX4_parse_18 : decode cX4_parse 18 = .ok (.bipush 32, 2) := by decide +kernel
theorem dX4_parse_20 : decode cX4_parse 20 = .ok (.if_icmp .ge 30, 3) := by decide +kernel
theorem dX4_parse_23 : decode cX4_parse 23 = .ok (.iload_n 2, 1) := by decide +kernel
theorem dX4_parse_24 : decode cX4_parse 24 = .ok (.ifCond .eq 26, 3) := by decide +kernel
theorem dX4_parse_27 : decode cX4_parse 27 = .ok (.aload_n 0, 1) := by decide +kernel
theorem dX4_parse_28 : decode cX4_parse 28 = .ok (.getfield 22, 3) := by decide +kernel
theorem dX4_parse_31 : decode cX4_parse 31 = .ok (.aload_n 0, 1) := by decide +kernel
theorem dX4_parse_32 : decode cX4_parse 32 = .ok (.getfield 19, 3) := by decide +kernel
theorem dX4_parse_35 : decode cX4_parse 35 = .ok (.if_icmp .ge 15, 3) := by decide +kernel
theorem dX4_parse_38 : decode cX4_parse 38 = .ok (.aload_n 0, 1) := by decide +kernel
theorem dX4_parse_39 : decode cX4_parse 39 = .ok (.aload_n 1, 1) := by decide +kernel
theorem dX4_parse_40 : decode cX4_parse 40 = .ok (.invokevirtual 30, 3) := by decide +kernel
theorem dX4_parse_43 : decode cX4_parse 43 = .ok (.istore_n 2, 1) := by decide +kernel
theorem dX4_parse_44 : decode cX4_parse 44 = .ok (.iinc 3 1, 3) := by decide +kernel
theorem dX4_parse_47 : decode cX4_parse 47 = .ok (.goto (-30), 3) := by decide +kernel
theorem dX4_parse_50 : decode cX4_parse 50 = .ok (.iload_n 2, 1) := by decide +kernel
theorem dX4_parse_51 : decode cX4_parse 51 = .ok (.ifCond .eq 18, 3) := by decide +kernel
theorem dX4_parse_54 : decode cX4_parse 54 = .ok (.aload_n 0, 1) := by decide +kernel
theorem dX4_parse_55 : decode cX4_parse 55 = .ok (.getfield 22, 3) := by decide +kernel
theorem dX4_parse_58 : decode cX4_parse 58 = .ok (.aload_n 0, 1) := by decide +kernel
theorem dX4_parse_59 : decode cX4_parse 59 = .ok (.getfield 19, 3) := by decide +kernel
theorem dX4_parse_62 : decode cX4_parse 62 = .ok (.if_icmp .lt 7, 3) := by decide +kernel
theorem dX4_parse_65 : decode cX4_parse 65 = .ok (.iconst 1, 1) := by decide +kernel
theorem dX4_parse_66 : decode cX4_parse 66 = .ok (.goto 4, 3) := by decide +kernel
theorem dX4_parse_69 : decode cX4_parse 69 = .ok (.iconst 0, 1) := by decide +kernel
theorem dX4_parse_70 : decode cX4_parse 70 = .ok (.istore_n 3, 1) := by decide +kernel
theorem dX4_parse_71 : decode cX4_parse 71 = .ok (.aload_n 0, 1) := by decide +kernel
theorem dX4_parse_72 : decode cX4_parse 72 = .ok (.iconst 0, 1) := by decide +kernel
theorem dX4_parse_73 : decode cX4_parse 73 = .ok (.putfield 19, 3) := by decide +kernel
theorem dX4_parse_76 : decode cX4_parse 76 = .ok (.iload_n 3, 1) := by decide +kernel
theorem dX4_parse_77 : decode cX4_parse 77 = .ok (.ifCond .eq 10, 3) := by decide +kernel
theorem dX4_parse_80 : decode cX4_parse 80 = .ok (.aload_n 1, 1) := by decide +kernel
theorem dX4_parse_81 : decode cX4_parse 81 = .ok (.getfield 34, 3) := by decide +kernel
theorem dX4_parse_84 : decode cX4_parse 84 = .ok (.goto 9, 3) := by decide +kernel
theorem dX4_parse_87 : decode cX4_parse 87 = .ok (.iconst (-1), 1) := by decide +kernel
theorem dX4_parse_88 : decode cX4_parse 88 = .ok (.aload_n 0, 1) := by decide +kernel
theorem dX4_parse_89 : decode cX4_parse 89 = .ok (.getfield 22, 3) := by decide +kernel
theorem dX4_parse_92 : decode cX4_parse 92 = .ok (.isub, 1) := by decide +kernel
theorem dX4_parse_93 : decode cX4_parse 93 = .ok (.ireturn, 1) := by decide +kernel
theorem dX4_takeStatement_0 : decode cX4_takeStatement 0 = .ok (.aload_n 0, 1) := by decide +kernel
theorem dX4_takeStatement_1 : decode cX4_takeStatement 1 = .ok (.invokevirtual 37, 3) := by decide +kernel
theorem dX4_takeStatement_4 : decode cX4_takeStatement 4 = .ok (.aload_n 0, 1) := by decide +kernel
theorem dX4_takeStatement_5 : decode cX4_takeStatement 5 = .ok (.invokevirtual 40, 3) := by decide +kernel
theorem dX4_takeStatement_8 : decode cX4_takeStatement 8 = .ok (.lookupswitch 40 #[(71, 34), (84, 28)], 28) := by decide +kernel
theorem dX4_takeStatement_36 : decode cX4_takeStatement 36 = .ok (.aload_n 0, 1) := by decide +kernel
theorem dX4_takeStatement_37 : decode cX4_takeStatement 37 = .ok (.aload_n 1, 1) := by decide +kernel
theorem dX4_takeStatement_38 : decode cX4_takeStatement 38 = .ok (.invokevirtual 44, 3) := by decide +kernel
theorem dX4_takeStatement_41 : decode cX4_takeStatement 41 = .ok (.ireturn, 1) := by decide +kernel
theorem dX4_takeStatement_42 : decode cX4_takeStatement 42 = .ok (.aload_n 0, 1) := by decide +kernel
theorem dX4_takeStatement_43 : decode cX4_takeStatement 43 = .ok (.aload_n 1, 1) := by decide +kernel
theorem dX4_takeStatement_44 : decode cX4_takeStatement 44 = .ok (.invokevirtual 47, 3) := by decide +kernel
theorem dX4_takeStatement_47 : decode cX4_takeStatement 47 = .ok (.ireturn, 1) := by decide +kernel
theorem dX4_takeStatement_48 : decode cX4_takeStatement 48 = .ok (.iconst 0, 1) := by decide +kernel
theorem dX4_takeStatement_49 : decode cX4_takeStatement 49 = .ok (.ireturn, 1) := by decide +kernel
theorem dX4_takeChange_0 : decode cX4_takeChange 0 = .ok (.aload_n 0, 1) := by decide +kernel
theorem dX4_takeChange_1 : decode cX4_takeChange 1 = .ok (.dup, 1) := by decide +kernel
theorem dX4_takeChange_2 : decode cX4_takeChange 2 = .ok (.getfield 22, 3) := by decide +kernel
theorem dX4_takeChange_5 : decode cX4_takeChange 5 = .ok (.iconst 1, 1) := by decide +kernel
theorem dX4_takeChange_6 : decode cX4_takeChange 6 = .ok (.iadd, 1) := by decide +kernel
theorem dX4_takeChange_7 : decode cX4_takeChange 7 = .ok (.putfield 22, 3) := by decide +kernel
theorem dX4_takeChange_10 : decode cX4_takeChange 10 = .ok (.aload_n 0, 1) := by decide +kernel
theorem dX4_takeChange_11 : decode cX4_takeChange 11 = .ok (.iconst 3, 1) := by decide +kernel
theorem dX4_takeChange_12 : decode cX4_takeChange 12 = .ok (.invokevirtual 50, 3) := by decide +kernel
theorem dX4_takeChange_15 : decode cX4_takeChange 15 = .ok (.istore_n 2, 1) := by decide +kernel
theorem dX4_takeChange_16 : decode cX4_takeChange 16 = .ok (.iload_n 2, 1) := by decide +kernel
theorem dX4_takeChange_17 : decode cX4_takeChange 17 = .ok (.bipush (-2), 2) := by decide +kernel
theorem dX4_takeChange_19 : decode cX4_takeChange 19 = .ok (.if_icmp .eq 10, 3) := by decide +kernel
theorem dX4_takeChange_22 : decode cX4_takeChange 22 = .ok (.aload_n 0, 1) := by decide +kernel
theorem dX4_takeChange_23 : decode cX4_takeChange 23 = .ok (.invokevirtual 54, 3) := by decide +kernel
theorem dX4_takeChange_26 : decode cX4_takeChange 26 = .ok (.ifCond .ne 5, 3) := by decide +kernel
theorem dX4_takeChange_29 : decode cX4_takeChange 29 = .ok (.iconst 0, 1) := by decide +kernel
theorem dX4_takeChange_30 : decode cX4_takeChange 30 = .ok (.ireturn, 1) := by decide +kernel
theorem dX4_takeChange_31 : decode cX4_takeChange 31 = .ok (.aload_n 1, 1) := by decide +kernel
theorem dX4_takeChange_32 : decode cX4_takeChange 32 = .ok (.bipush 84, 2) := by decide +kernel
theorem dX4_takeChange_34 : decode cX4_takeChange 34 = .ok (.iload_n 2, 1) := by decide +kernel
theorem dX4_takeChange_35 : decode cX4_takeChange 35 = .ok (.iconst (-1), 1) := by decide +kernel
theorem dX4_takeChange_36 : decode cX4_takeChange 36 = .ok (.iconst (-1), 1) := by decide +kernel
theorem dX4_takeChange_37 : decode cX4_takeChange 37 = .ok (.iconst (-1), 1) := by decide +kernel
theorem dX4_takeChange_38 : decode cX4_takeChange 38 = .ok (.invokevirtual 58, 3) := by decide +kernel
theorem dX4_takeChange_41 : decode cX4_takeChange 41 = .ok (.iconst 1, 1) := by decide +kernel
theorem dX4_takeChange_42 : decode cX4_takeChange 42 = .ok (.ireturn, 1) := by decide +kernel
theorem dX4_takeMove_0 : decode cX4_takeMove 0 = .ok (.aload_n 0, 1) := by decide +kernel
theorem dX4_takeMove_1 : decode cX4_takeMove 1 = .ok (.dup, 1) := by decide +kernel
theorem dX4_takeMove_2 : decode cX4_takeMove 2 = .ok (.getfield 22, 3) := by decide +kernel
theorem dX4_takeMove_5 : decode cX4_takeMove 5 = .ok (.iconst 1, 1) := by decide +kernel
theorem dX4_takeMove_6 : decode cX4_takeMove 6 = .ok (.iadd, 1) := by decide +kernel
theorem dX4_takeMove_7 : decode cX4_takeMove 7 = .ok (.putfield 22, 3) := by decide +kernel
theorem dX4_takeMove_10 : decode cX4_takeMove 10 = .ok (.aload_n 0, 1) := by decide +kernel
theorem dX4_takeMove_11 : decode cX4_takeMove 11 = .ok (.iconst 1, 1) := by decide +kernel
theorem dX4_takeMove_12 : decode cX4_takeMove 12 = .ok (.invokevirtual 50, 3) := by decide +kernel
theorem dX4_takeMove_15 : decode cX4_takeMove 15 = .ok (.istore_n 2, 1) := by decide +kernel
theorem dX4_takeMove_16 : decode cX4_takeMove 16 = .ok (.iload_n 2, 1) := by decide +kernel
theorem dX4_takeMove_17 : decode cX4_takeMove 17 = .ok (.bipush (-2), 2) := by decide +kernel
theorem dX4_takeMove_19 : decode cX4_takeMove 19 = .ok (.if_icmp .ne 5, 3) := by decide +kernel
theorem dX4_takeMove_22 : decode cX4_takeMove 22 = .ok (.iconst 0, 1) := by decide +kernel
theorem dX4_takeMove_23 : decode cX4_takeMove 23 = .ok (.ireturn, 1) := by decide +kernel
theorem dX4_takeMove_24 : decode cX4_takeMove 24 = .ok (.aload_n 0, 1) := by decide +kernel
theorem dX4_takeMove_25 : decode cX4_takeMove 25 = .ok (.bipush 88, 2) := by decide +kernel
theorem dX4_takeMove_27 : decode cX4_takeMove 27 = .ok (.aload_n 0, 1) := by decide +kernel
theorem dX4_takeMove_28 : decode cX4_takeMove 28 = .ok (.getfield 9, 3) := by decide +kernel
theorem dX4_takeMove_31 : decode cX4_takeMove 31 = .ok (.iconst 1, 1) := by decide +kernel
theorem dX4_takeMove_32 : decode cX4_takeMove 32 = .ok (.isub, 1) := by decide +kernel
theorem dX4_takeMove_33 : decode cX4_takeMove 33 = .ok (.invokevirtual 62, 3) := by decide +kernel
theorem dX4_takeMove_36 : decode cX4_takeMove 36 = .ok (.istore_n 3, 1) := by decide +kernel
theorem dX4_takeMove_37 : decode cX4_takeMove 37 = .ok (.iload_n 3, 1) := by decide +kernel
theorem dX4_takeMove_38 : decode cX4_takeMove 38 = .ok (.bipush (-2), 2) := by decide +kernel
theorem dX4_takeMove_40 : decode cX4_takeMove 40 = .ok (.if_icmp .ne 5, 3) := by decide +kernel
theorem dX4_takeMove_43 : decode cX4_takeMove 43 = .ok (.iconst 0, 1) := by decide +kernel
theorem dX4_takeMove_44 : decode cX4_takeMove 44 = .ok (.ireturn, 1) := by decide +kernel
theorem dX4_takeMove_45 : decode cX4_takeMove 45 = .ok (.aload_n 0, 1) := by decide +kernel
theorem dX4_takeMove_46 : decode cX4_takeMove 46 = .ok (.bipush 89, 2) := by decide +kernel
theorem dX4_takeMove_48 : decode cX4_takeMove 48 = .ok (.aload_n 0, 1) := by decide +kernel
theorem dX4_takeMove_49 : decode cX4_takeMove 49 = .ok (.getfield 9, 3) := by decide +kernel
theorem dX4_takeMove_52 : decode cX4_takeMove 52 = .ok (.iconst 1, 1) := by decide +kernel
theorem dX4_takeMove_53 : decode cX4_takeMove 53 = .ok (.isub, 1) := by decide +kernel
theorem dX4_takeMove_54 : decode cX4_takeMove 54 = .ok (.invokevirtual 62, 3) := by decide +kernel
theorem dX4_takeMove_57 : decode cX4_takeMove 57 = .ok (.istore 4, 2) := by decide +kernel
theorem dX4_takeMove_59 : decode cX4_takeMove 59 = .ok (.iload 4, 2) := by decide +kernel
theorem dX4_takeMove_61 : decode cX4_takeMove 61 = .ok (.bipush (-2), 2) := by decide +kernel
theorem dX4_takeMove_63 : decode cX4_takeMove 63 = .ok (.if_icmp .ne 5, 3) := by decide +kernel
theorem dX4_takeMove_66 : decode cX4_takeMove 66 = .ok (.iconst 0, 1) := by decide +kernel
theorem dX4_takeMove_67 : decode cX4_takeMove 67 = .ok (.ireturn, 1) := by decide +kernel
theorem dX4_takeMove_68 : decode cX4_takeMove 68 = .ok (.aload_n 0, 1) := by decide +kernel
theorem dX4_takeMove_69 : decode cX4_takeMove 69 = .ok (.bipush 90, 2) := by decide +kernel
theorem dX4_takeMove_71 : decode cX4_takeMove 71 = .ok (.bipush 100, 2) := by decide +kernel
theorem dX4_takeMove_73 : decode cX4_takeMove 73 = .ok (.invokevirtual 62, 3) := by decide +kernel
theorem dX4_takeMove_76 : decode cX4_takeMove 76 = .ok (.istore 5, 2) := by decide +kernel
theorem dX4_takeMove_78 : decode cX4_takeMove 78 = .ok (.iload 5, 2) := by decide +kernel
theorem dX4_takeMove_80 : decode cX4_takeMove 80 = .ok (.bipush (-2), 2) := by decide +kernel
theorem dX4_takeMove_82 : decode cX4_takeMove 82 = .ok (.if_icmp .ne 5, 3) := by decide +kernel
theorem dX4_takeMove_85 : decode cX4_takeMove 85 = .ok (.iconst 0, 1) := by decide +kernel
theorem dX4_takeMove_86 : decode cX4_takeMove 86 = .ok (.ireturn, 1) := by decide +kernel
theorem dX4_takeMove_87 : decode cX4_takeMove 87 = .ok (.iload_n 3, 1) := by decide +kernel
theorem dX4_takeMove_88 : decode cX4_takeMove 88 = .ok (.iconst (-1), 1) := by decide +kernel
theorem dX4_takeMove_89 : decode cX4_takeMove 89 = .ok (.if_icmp .ne 19, 3) := by decide +kernel
theorem dX4_takeMove_92 : decode cX4_takeMove 92 = .ok (.iload 4, 2) := by decide +kernel
theorem dX4_takeMove_94 : decode cX4_takeMove 94 = .ok (.iconst (-1), 1) := by decide +kernel
theorem dX4_takeMove_95 : decode cX4_takeMove 95 = .ok (.if_icmp .ne 13, 3) := by decide +kernel
theorem dX4_takeMove_98 : decode cX4_takeMove 98 = .ok (.iload 5, 2) := by decide +kernel
theorem dX4_takeMove_100 : decode cX4_takeMove 100 = .ok (.iconst (-1), 1) := by decide +kernel
theorem dX4_takeMove_101 : decode cX4_takeMove 101 = .ok (.if_icmp .ne 7, 3) := by decide +kernel
theorem dX4_takeMove_104 : decode cX4_takeMove 104 = .ok (.iconst 1, 1) := by decide +kernel
theorem dX4_takeMove_105 : decode cX4_takeMove 105 = .ok (.goto 4, 3) := by decide +kernel
theorem dX4_takeMove_108 : decode cX4_takeMove 108 = .ok (.iconst 0, 1) := by decide +kernel
theorem dX4_takeMove_109 : decode cX4_takeMove 109 = .ok (.istore 6, 2) := by decide +kernel
theorem dX4_takeMove_111 : decode cX4_takeMove 111 = .ok (.iload 6, 2) := by decide +kernel
theorem dX4_takeMove_113 : decode cX4_takeMove 113 = .ok (.ifCond .ne 10, 3) := by decide +kernel
theorem dX4_takeMove_116 : decode cX4_takeMove 116 = .ok (.aload_n 0, 1) := by decide +kernel
theorem dX4_takeMove_117 : decode cX4_takeMove 117 = .ok (.invokevirtual 54, 3) := by decide +kernel
theorem dX4_takeMove_120 : decode cX4_takeMove 120 = .ok (.ifCond .ne 5, 3) := by decide +kernel
theorem dX4_takeMove_123 : decode cX4_takeMove 123 = .ok (.iconst 0, 1) := by decide +kernel
theorem dX4_takeMove_124 : decode cX4_takeMove 124 = .ok (.ireturn, 1) := by decide +kernel
theorem dX4_takeMove_125 : decode cX4_takeMove 125 = .ok (.aload_n 1, 1) := by decide +kernel
theorem dX4_takeMove_126 : decode cX4_takeMove 126 = .ok (.bipush 71, 2) := by decide +kernel
theorem dX4_takeMove_128 : decode cX4_takeMove 128 = .ok (.iload_n 2, 1) := by decide +kernel
theorem dX4_takeMove_129 : decode cX4_takeMove 129 = .ok (.iload_n 3, 1) := by decide +kernel
theorem dX4_takeMove_130 : decode cX4_takeMove 130 = .ok (.iload 4, 2) := by decide +kernel
theorem dX4_takeMove_132 : decode cX4_takeMove 132 = .ok (.iload 5, 2) := by decide +kernel
theorem dX4_takeMove_134 : decode cX4_takeMove 134 = .ok (.invokevirtual 58, 3) := by decide +kernel
theorem dX4_takeMove_137 : decode cX4_takeMove 137 = .ok (.iconst 1, 1) := by decide +kernel
theorem dX4_takeMove_138 : decode cX4_takeMove 138 = .ok (.ireturn, 1) := by decide +kernel
theorem dX4_takeDigit_0 : decode cX4_takeDigit 0 = .ok (.aload_n 0, 1) := by decide +kernel
theorem dX4_takeDigit_1 : decode cX4_takeDigit 1 = .ok (.invokevirtual 40, 3) := by decide +kernel
theorem dX4_takeDigit_4 : decode cX4_takeDigit 4 = .ok (.bipush 48, 2) := by decide +kernel
theorem dX4_takeDigit_6 : decode cX4_takeDigit 6 = .ok (.isub, 1) := by decide +kernel
theorem dX4_takeDigit_7 : decode cX4_takeDigit 7 = .ok (.istore_n 2, 1) := by decide +kernel
theorem dX4_takeDigit_8 : decode cX4_takeDigit 8 = .ok (.iload_n 2, 1) := by decide +kernel
theorem dX4_takeDigit_9 : decode cX4_takeDigit 9 = .ok (.ifCond .lt 8, 3) := by decide +kernel
theorem dX4_takeDigit_12 : decode cX4_takeDigit 12 = .ok (.iload_n 2, 1) := by decide +kernel
theorem dX4_takeDigit_13 : decode cX4_takeDigit 13 = .ok (.iload_n 1, 1) := by decide +kernel
theorem dX4_takeDigit_14 : decode cX4_takeDigit 14 = .ok (.if_icmp .le 6, 3) := by decide +kernel
theorem dX4_takeDigit_17 : decode cX4_takeDigit 17 = .ok (.bipush (-2), 2) := by decide +kernel
theorem dX4_takeDigit_19 : decode cX4_takeDigit 19 = .ok (.ireturn, 1) := by decide +kernel
theorem dX4_takeDigit_20 : decode cX4_takeDigit 20 = .ok (.aload_n 0, 1) := by decide +kernel
theorem dX4_takeDigit_21 : decode cX4_takeDigit 21 = .ok (.dup, 1) := by decide +kernel
theorem dX4_takeDigit_22 : decode cX4_takeDigit 22 = .ok (.getfield 22, 3) := by decide +kernel
theorem dX4_takeDigit_25 : decode cX4_takeDigit 25 = .ok (.iconst 1, 1) := by decide +kernel
theorem dX4_takeDigit_26 : decode cX4_takeDigit 26 = .ok (.iadd, 1) := by decide +kernel
theorem dX4_takeDigit_27 : decode cX4_takeDigit 27 = .ok (.putfield 22, 3) := by decide +kernel
theorem dX4_takeDigit_30 : decode cX4_takeDigit 30 = .ok (.iload_n 2, 1) := by decide +kernel
theorem dX4_takeDigit_31 : decode cX4_takeDigit 31 = .ok (.ireturn, 1) := by decide +kernel
theorem dX4_takeNumber_0 : decode cX4_takeNumber 0 = .ok (.aload_n 0, 1) := by decide +kernel
theorem dX4_takeNumber_1 : decode cX4_takeNumber 1 = .ok (.invokevirtual 37, 3) := by decide +kernel
theorem dX4_takeNumber_4 : decode cX4_takeNumber 4 = .ok (.aload_n 0, 1) := by decide +kernel
theorem dX4_takeNumber_5 : decode cX4_takeNumber 5 = .ok (.invokevirtual 40, 3) := by decide +kernel
theorem dX4_takeNumber_8 : decode cX4_takeNumber 8 = .ok (.iload_n 1, 1) := by decide +kernel
theorem dX4_takeNumber_9 : decode cX4_takeNumber 9 = .ok (.if_icmp .eq 5, 3) := by decide +kernel
theorem dX4_takeNumber_12 : decode cX4_takeNumber 12 = .ok (.iconst (-1), 1) := by decide +kernel
theorem dX4_takeNumber_13 : decode cX4_takeNumber 13 = .ok (.ireturn, 1) := by decide +kernel
theorem dX4_takeNumber_14 : decode cX4_takeNumber 14 = .ok (.aload_n 0, 1) := by decide +kernel
theorem dX4_takeNumber_15 : decode cX4_takeNumber 15 = .ok (.dup, 1) := by decide +kernel
theorem dX4_takeNumber_16 : decode cX4_takeNumber 16 = .ok (.getfield 22, 3) := by decide +kernel
theorem dX4_takeNumber_19 : decode cX4_takeNumber 19 = .ok (.iconst 1, 1) := by decide +kernel
theorem dX4_takeNumber_20 : decode cX4_takeNumber 20 = .ok (.iadd, 1) := by decide +kernel
theorem dX4_takeNumber_21 : decode cX4_takeNumber 21 = .ok (.putfield 22, 3) := by decide +kernel
theorem dX4_takeNumber_24 : decode cX4_takeNumber 24 = .ok (.aload_n 0, 1) := by decide +kernel
theorem dX4_takeNumber_25 : decode cX4_takeNumber 25 = .ok (.getfield 22, 3) := by decide +kernel
theorem dX4_takeNumber_28 : decode cX4_takeNumber 28 = .ok (.istore_n 3, 1) := by decide +kernel
theorem dX4_takeNumber_29 : decode cX4_takeNumber 29 = .ok (.iconst 0, 1) := by decide +kernel
theorem dX4_takeNumber_30 : decode cX4_takeNumber 30 = .ok (.istore 4, 2) := by decide +kernel
theorem dX4_takeNumber_32 : decode cX4_takeNumber 32 = .ok (.iconst 0, 1) := by decide +kernel
theorem dX4_takeNumber_33 : decode cX4_takeNumber 33 = .ok (.istore 5, 2) := by decide +kernel
theorem dX4_takeNumber_35 : decode cX4_takeNumber 35 = .ok (.iload 5, 2) := by decide +kernel
theorem dX4_takeNumber_37 : decode cX4_takeNumber 37 = .ok (.iconst 3, 1) := by decide +kernel
theorem dX4_takeNumber_38 : decode cX4_takeNumber 38 = .ok (.if_icmp .ge 52, 3) := by decide +kernel
theorem dX4_takeNumber_41 : decode cX4_takeNumber 41 = .ok (.aload_n 0, 1) := by decide +kernel
theorem dX4_takeNumber_42 : decode cX4_takeNumber 42 = .ok (.invokevirtual 40, 3) := by decide +kernel
theorem dX4_takeNumber_45 : decode cX4_takeNumber 45 = .ok (.bipush 48, 2) := by decide +kernel
theorem dX4_takeNumber_47 : decode cX4_takeNumber 47 = .ok (.if_icmp .lt 43, 3) := by decide +kernel
theorem dX4_takeNumber_50 : decode cX4_takeNumber 50 = .ok (.aload_n 0, 1) := by decide +kernel
theorem dX4_takeNumber_51 : decode cX4_takeNumber 51 = .ok (.invokevirtual 40, 3) := by decide +kernel
theorem dX4_takeNumber_54 : decode cX4_takeNumber 54 = .ok (.bipush 57, 2) := by decide +kernel
theorem dX4_takeNumber_56 : decode cX4_takeNumber 56 = .ok (.if_icmp .gt 34, 3) := by decide +kernel
theorem dX4_takeNumber_59 : decode cX4_takeNumber 59 = .ok (.bipush 10, 2) := by decide +kernel
theorem dX4_takeNumber_61 : decode cX4_takeNumber 61 = .ok (.iload 4, 2) := by decide +kernel
theorem dX4_takeNumber_63 : decode cX4_takeNumber 63 = .ok (.imul, 1) := by decide +kernel
theorem dX4_takeNumber_64 : decode cX4_takeNumber 64 = .ok (.aload_n 0, 1) := by decide +kernel
theorem dX4_takeNumber_65 : decode cX4_takeNumber 65 = .ok (.invokevirtual 40, 3) := by decide +kernel
theorem dX4_takeNumber_68 : decode cX4_takeNumber 68 = .ok (.bipush 48, 2) := by decide +kernel
theorem dX4_takeNumber_70 : decode cX4_takeNumber 70 = .ok (.isub, 1) := by decide +kernel
theorem dX4_takeNumber_71 : decode cX4_takeNumber 71 = .ok (.iadd, 1) := by decide +kernel
theorem dX4_takeNumber_72 : decode cX4_takeNumber 72 = .ok (.istore 4, 2) := by decide +kernel
theorem dX4_takeNumber_74 : decode cX4_takeNumber 74 = .ok (.aload_n 0, 1) := by decide +kernel
theorem dX4_takeNumber_75 : decode cX4_takeNumber 75 = .ok (.dup, 1) := by decide +kernel
theorem dX4_takeNumber_76 : decode cX4_takeNumber 76 = .ok (.getfield 22, 3) := by decide +kernel
theorem dX4_takeNumber_79 : decode cX4_takeNumber 79 = .ok (.iconst 1, 1) := by decide +kernel
theorem dX4_takeNumber_80 : decode cX4_takeNumber 80 = .ok (.iadd, 1) := by decide +kernel
theorem dX4_takeNumber_81 : decode cX4_takeNumber 81 = .ok (.putfield 22, 3) := by decide +kernel
theorem dX4_takeNumber_84 : decode cX4_takeNumber 84 = .ok (.iinc 5 1, 3) := by decide +kernel
theorem dX4_takeNumber_87 : decode cX4_takeNumber 87 = .ok (.goto (-52), 3) := by decide +kernel
theorem dX4_takeNumber_90 : decode cX4_takeNumber 90 = .ok (.aload_n 0, 1) := by decide +kernel
theorem dX4_takeNumber_91 : decode cX4_takeNumber 91 = .ok (.getfield 22, 3) := by decide +kernel
theorem dX4_takeNumber_94 : decode cX4_takeNumber 94 = .ok (.iload_n 3, 1) := by decide +kernel
theorem dX4_takeNumber_95 : decode cX4_takeNumber 95 = .ok (.if_icmp .ne 6, 3) := by decide +kernel
theorem dX4_takeNumber_98 : decode cX4_takeNumber 98 = .ok (.bipush (-2), 2) := by decide +kernel
theorem dX4_takeNumber_100 : decode cX4_takeNumber 100 = .ok (.ireturn, 1) := by decide +kernel
theorem dX4_takeNumber_101 : decode cX4_takeNumber 101 = .ok (.iload 4, 2) := by decide +kernel
theorem dX4_takeNumber_103 : decode cX4_takeNumber 103 = .ok (.iload_n 2, 1) := by decide +kernel
theorem dX4_takeNumber_104 : decode cX4_takeNumber 104 = .ok (.if_icmp .le 11, 3) := by decide +kernel
theorem dX4_takeNumber_107 : decode cX4_takeNumber 107 = .ok (.aload_n 0, 1) := by decide +kernel
theorem dX4_takeNumber_108 : decode cX4_takeNumber 108 = .ok (.iload_n 3, 1) := by decide +kernel
theorem dX4_takeNumber_109 : decode cX4_takeNumber 109 = .ok (.putfield 22, 3) := by decide +kernel
theorem dX4_takeNumber_112 : decode cX4_takeNumber 112 = .ok (.bipush (-2), 2) := by decide +kernel
theorem dX4_takeNumber_114 : decode cX4_takeNumber 114 = .ok (.ireturn, 1) := by decide +kernel
theorem dX4_takeNumber_115 : decode cX4_takeNumber 115 = .ok (.iload 4, 2) := by decide +kernel
theorem dX4_takeNumber_117 : decode cX4_takeNumber 117 = .ok (.ireturn, 1) := by decide +kernel
theorem dX4_takeEnd_0 : decode cX4_takeEnd 0 = .ok (.aload_n 0, 1) := by decide +kernel
theorem dX4_takeEnd_1 : decode cX4_takeEnd 1 = .ok (.invokevirtual 37, 3) := by decide +kernel
theorem dX4_takeEnd_4 : decode cX4_takeEnd 4 = .ok (.aload_n 0, 1) := by decide +kernel
theorem dX4_takeEnd_5 : decode cX4_takeEnd 5 = .ok (.invokevirtual 40, 3) := by decide +kernel
theorem dX4_takeEnd_8 : decode cX4_takeEnd 8 = .ok (.bipush 59, 2) := by decide +kernel
theorem dX4_takeEnd_10 : decode cX4_takeEnd 10 = .ok (.if_icmp .eq 5, 3) := by decide +kernel
theorem dX4_takeEnd_13 : decode cX4_takeEnd 13 = .ok (.iconst 0, 1) := by decide +kernel
theorem dX4_takeEnd_14 : decode cX4_takeEnd 14 = .ok (.ireturn, 1) := by decide +kernel
theorem dX4_takeEnd_15 : decode cX4_takeEnd 15 = .ok (.aload_n 0, 1) := by decide +kernel
theorem dX4_takeEnd_16 : decode cX4_takeEnd 16 = .ok (.dup, 1) := by decide +kernel
theorem dX4_takeEnd_17 : decode cX4_takeEnd 17 = .ok (.getfield 22, 3) := by decide +kernel
theorem dX4_takeEnd_20 : decode cX4_takeEnd 20 = .ok (.iconst 1, 1) := by decide +kernel
theorem dX4_takeEnd_21 : decode cX4_takeEnd 21 = .ok (.iadd, 1) := by decide +kernel
theorem dX4_takeEnd_22 : decode cX4_takeEnd 22 = .ok (.putfield 22, 3) := by decide +kernel
theorem dX4_takeEnd_25 : decode cX4_takeEnd 25 = .ok (.iconst 1, 1) := by decide +kernel
theorem dX4_takeEnd_26 : decode cX4_takeEnd 26 = .ok (.ireturn, 1) := by decide +kernel
theorem dX4_skipSpaces_0 : decode cX4_skipSpaces 0 = .ok (.aload_n 0, 1) := by decide +kernel
theorem dX4_skipSpaces_1 : decode cX4_skipSpaces 1 = .ok (.getfield 22, 3) := by decide +kernel
theorem dX4_skipSpaces_4 : decode cX4_skipSpaces 4 = .ok (.aload_n 0, 1) := by decide +kernel
theorem dX4_skipSpaces_5 : decode cX4_skipSpaces 5 = .ok (.getfield 19, 3) := by decide +kernel
theorem dX4_skipSpaces_8 : decode cX4_skipSpaces 8 = .ok (.if_icmp .ge 25, 3) := by decide +kernel
theorem dX4_skipSpaces_11 : decode cX4_skipSpaces 11 = .ok (.aload_n 0, 1) := by decide +kernel
theorem dX4_skipSpaces_12 : decode cX4_skipSpaces 12 = .ok (.invokevirtual 40, 3) := by decide +kernel
theorem dX4_skipSpaces_15 : decode cX4_skipSpaces 15 = .ok (.bipush 32, 2) := by decide +kernel
theorem dX4_skipSpaces_17 : decode cX4_skipSpaces 17 = .ok (.if_icmp .ne 16, 3) := by decide +kernel
theorem dX4_skipSpaces_20 : decode cX4_skipSpaces 20 = .ok (.aload_n 0, 1) := by decide +kernel
theorem dX4_skipSpaces_21 : decode cX4_skipSpaces 21 = .ok (.dup, 1) := by decide +kernel
theorem dX4_skipSpaces_22 : decode cX4_skipSpaces 22 = .ok (.getfield 22, 3) := by decide +kernel
theorem dX4_skipSpaces_25 : decode cX4_skipSpaces 25 = .ok (.iconst 1, 1) := by decide +kernel
theorem dX4_skipSpaces_26 : decode cX4_skipSpaces 26 = .ok (.iadd, 1) := by decide +kernel
theorem dX4_skipSpaces_27 : decode cX4_skipSpaces 27 = .ok (.putfield 22, 3) := by decide +kernel
theorem dX4_skipSpaces_30 : decode cX4_skipSpaces 30 = .ok (.goto (-30), 3) := by decide +kernel
theorem dX4_skipSpaces_33 : decode cX4_skipSpaces 33 = .ok (.return_, 1) := by decide +kernel
theorem dX4_here_0 : decode cX4_here 0 = .ok (.aload_n 0, 1) := by decide +kernel
theorem dX4_here_1 : decode cX4_here 1 = .ok (.getfield 22, 3) := by decide +kernel
theorem dX4_here_4 : decode cX4_here 4 = .ok (.ifCond .lt 26, 3) := by decide +kernel
theorem dX4_here_7 : decode cX4_here 7 = .ok (.aload_n 0, 1) := by decide +kernel
theorem dX4_here_8 : decode cX4_here 8 = .ok (.getfield 22, 3) := by decide +kernel
theorem dX4_here_11 : decode cX4_here 11 = .ok (.aload_n 0, 1) := by decide +kernel
theorem dX4_here_12 : decode cX4_here 12 = .ok (.getfield 19, 3) := by decide +kernel
theorem dX4_here_15 : decode cX4_here 15 = .ok (.if_icmp .ge 15, 3) := by decide +kernel
theorem dX4_here_18 : decode cX4_here 18 = .ok (.aload_n 0, 1) := by decide +kernel
theorem dX4_here_19 : decode cX4_here 19 = .ok (.getfield 15, 3) := by decide +kernel
theorem dX4_here_22 : decode cX4_here 22 = .ok (.aload_n 0, 1) := by decide +kernel
theorem dX4_here_23 : decode cX4_here 23 = .ok (.getfield 22, 3) := by decide +kernel
theorem dX4_here_26 : decode cX4_here 26 = .ok (.iaload, 1) := by decide +kernel
theorem dX4_here_27 : decode cX4_here 27 = .ok (.goto 4, 3) := by decide +kernel
theorem dX4_here_30 : decode cX4_here 30 = .ok (.iconst (-1), 1) := by decide +kernel
theorem dX4_here_31 : decode cX4_here 31 = .ok (.ireturn, 1) := by decide +kernel
end
section
/-! The judgement V: 'from this symbolic state (program counter, named locals, stack, world) the method comes to its end', with the whole context in one tuple; and its rows. -/
theorem fp {α : Type} {c : Prop} [Decidable c] {a b r : α} (hc : c) (h : (if c then a else b) = r) : a = r := by
  rw [if_pos hc] at h; exact h
theorem fn {α : Type} {c : Prop} [Decidable c] {a b r : α} (hc : ¬ c) (h : (if c then a else b) = r) : b = r := by
  rw [if_neg hc] at h; exact h
theorem bp {α β : Type} {o : Option α} {k : α → Option β} {r : β} (h : o.bind k = some r) : ∃ v, o = some v ∧ k v = some r := by
  cases o with
  | none => cases h
  | some v => exact ⟨v, rfl, h⟩
def rk4 (a b c d : Nat) : Nat → Option Nat := fun j => match j with
  | 0 => some a
  | 1 => some b
  | 2 => some c
  | 3 => some d
  | _ => none
theorem fam4 {i : Nat} (h : i < 4) : i = 0 ∨ i = 1 ∨ i = 2 ∨ i = 3 := by omega
abbrev Ctx : Type _ := Program × Env × State × MethodId × Array Value × List Frame × Method × Code × (Nat → Prop) × (State → Prop)
/-- what a walk knows of its surroundings -/
def Kx (p : Program) (s : State) (m : MethodId) (ar : Array Value) (meth : Method) (c : Code) (A : Nat → Prop) (D : va_G) (cA : Nat → ClassId) (cc : ByteArray) (nL : Nat) (own : String) (ret : Option FieldType) : Prop :=
  p.tables.exec = Jvm.exec ∧ c.code = cc ∧ c.maxLocals = nL ∧ s.vm.findClass own = some m.cls ∧ (∀ w ∈ tblG, w.before ar s = true) ∧ meth.sig.returnType = ret ∧ meth.locks = false ∧ va_K D vwCl (tys cA) s ∧ ∀ q : Nat, s.heap.size ≤ q → A q
def V (κ : Ctx) (l : Launch) (D : va_G) (cA : Nat → ClassId) (R : Room) (cc : ByteArray) (nL : Nat) (own : String) (ret : Option FieldType) (k n : Nat) (pc : Nat) (lv : List (Nat × Value)) (stk : List Value) (ws : va_W) : Prop :=
  match κ with
  | (p, e, s, m, ar, below, meth, c, A, Q) => Kx p s m ar meth c A D cA cc nL own ret → ∀ (H : Heap) (locs : List Loc) (ls : Array Slot), lv_has ls nL lv → va_P D vwCl ws H → va_D A ws → va_S A s.heap H locs → W p l e R s m ar below meth c H locs k n Q (F0 m pc ls stk)
section VRows
variable {κ : Ctx} {l : Launch} {D : va_G} {cA : Nat → ClassId} {R : Room} {cc : ByteArray} {nL : Nat} {own : String} {ret : Option FieldType} {k n : Nat} {pc : Nat} {lv lv' : List (Nat × Value)} {stk rest : List Value} {ws : va_W}
theorem z_iconst {i : Int} {v : Int32} (hdg : decode cc pc = .ok (.iconst i, 1)) (hv : Int32.ofInt i = v) (h : V κ l D cA R cc nL own ret k n (pc + 1) lv (.int v :: stk) ws) : V κ l D cA R cc nL own ret k n pc lv stk ws := by
  obtain ⟨p, e, s, m, ar, below, meth, c, A, Q⟩ := κ
  intro K H locs ls hl hP hD hS
  exact lv_iconst K.1 K.2.1 hdg hv (h K H locs ls hl hP hD hS)
theorem z_bipush {i : Int} {v : Int32} (hdg : decode cc pc = .ok (.bipush i, 2)) (hv : (Int8.ofInt i).toInt32 = v) (h : V κ l D cA R cc nL own ret k n (pc + 2) lv (.int v :: stk) ws) : V κ l D cA R cc nL own ret k n pc lv stk ws := by
  obtain ⟨p, e, s, m, ar, below, meth, c, A, Q⟩ := κ
  intro K H locs ls hl hP hD hS
  exact lv_bipush K.1 K.2.1 hdg hv (h K H locs ls hl hP hD hS)
theorem z_sipush {i : Int} {v : Int32} (hdg : decode cc pc = .ok (.sipush i, 3)) (hv : (Int16.ofInt i).toInt32 = v) (h : V κ l D cA R cc nL own ret k n (pc + 3) lv (.int v :: stk) ws) : V κ l D cA R cc nL own ret k n pc lv stk ws := by
  obtain ⟨p, e, s, m, ar, below, meth, c, A, Q⟩ := κ
  intro K H locs ls hl hP hD hS
  exact lv_sipush K.1 K.2.1 hdg hv (h K H locs ls hl hP hD hS)
theorem z_iload_n (j : Nat) {i : Fin 4} {x : Int32} (hdg : decode cc pc = .ok (.iload_n i, 1)) (hj : lv[j]? = some ((i : Nat), .int x)) (h : V κ l D cA R cc nL own ret k n (pc + 1) lv (.int x :: stk) ws) : V κ l D cA R cc nL own ret k n pc lv stk ws := by
  obtain ⟨p, e, s, m, ar, below, meth, c, A, Q⟩ := κ
  intro K H locs ls hl hP hD hS
  exact lv_iload_n K.1 K.2.1 hdg rfl (lv_at hl j hj) (h K H locs ls hl hP hD hS)
theorem z_iload (j : Nat) {i : Nat} {x : Int32} (hdg : decode cc pc = .ok (.iload i, 2)) (hj : lv[j]? = some (i, .int x)) (h : V κ l D cA R cc nL own ret k n (pc + 2) lv (.int x :: stk) ws) : V κ l D cA R cc nL own ret k n pc lv stk ws := by
  obtain ⟨p, e, s, m, ar, below, meth, c, A, Q⟩ := κ
  intro K H locs ls hl hP hD hS
  exact lv_iload K.1 K.2.1 hdg (lv_at hl j hj) (h K H locs ls hl hP hD hS)
theorem z_aload_n (j : Nat) {i : Fin 4} {x : Nat} (hdg : decode cc pc = .ok (.aload_n i, 1)) (hj : lv[j]? = some ((i : Nat), .ref x)) (h : V κ l D cA R cc nL own ret k n (pc + 1) lv (.ref x :: stk) ws) : V κ l D cA R cc nL own ret k n pc lv stk ws := by
  obtain ⟨p, e, s, m, ar, below, meth, c, A, Q⟩ := κ
  intro K H locs ls hl hP hD hS
  exact lv_aload_n K.1 K.2.1 hdg rfl (lv_at hl j hj) (h K H locs ls hl hP hD hS)
theorem z_aload (j : Nat) {i : Nat} {x : Nat} (hdg : decode cc pc = .ok (.aload i, 2)) (hj : lv[j]? = some (i, .ref x)) (h : V κ l D cA R cc nL own ret k n (pc + 2) lv (.ref x :: stk) ws) : V κ l D cA R cc nL own ret k n pc lv stk ws := by
  obtain ⟨p, e, s, m, ar, below, meth, c, A, Q⟩ := κ
  intro K H locs ls hl hP hD hS
  exact lv_aload K.1 K.2.1 hdg (lv_at hl j hj) (h K H locs ls hl hP hD hS)
theorem z_istore_n {i : Fin 4} {x : Int32} (hdg : decode cc pc = .ok (.istore_n i, 1)) (hn : (i : Nat) < nL) (hl' : ((i : Nat), Value.int x) :: lv.filter (fun q => !(q.1 == (i : Nat)) && !(q.1 + 1 == (i : Nat) && q.2.category == 2)) = lv') (h : V κ l D cA R cc nL own ret k n (pc + 1) lv' stk ws) : V κ l D cA R cc nL own ret k n pc lv (.int x :: stk) ws := by
  obtain ⟨p, e, s, m, ar, below, meth, c, A, Q⟩ := κ
  intro K H locs ls hl hP hD hS
  exact lv_istore_n K.1 K.2.1 hdg rfl hl hn hl' (fun ls hl => h K H locs ls hl hP hD hS)
theorem z_istore {i : Nat} {x : Int32} (hdg : decode cc pc = .ok (.istore i, 2)) (hn : i < nL) (hl' : (i, Value.int x) :: lv.filter (fun q => !(q.1 == i) && !(q.1 + 1 == i && q.2.category == 2)) = lv') (h : V κ l D cA R cc nL own ret k n (pc + 2) lv' stk ws) : V κ l D cA R cc nL own ret k n pc lv (.int x :: stk) ws := by
  obtain ⟨p, e, s, m, ar, below, meth, c, A, Q⟩ := κ
  intro K H locs ls hl hP hD hS
  exact lv_istore K.1 K.2.1 hdg hl hn hl' (fun ls hl => h K H locs ls hl hP hD hS)
theorem z_astore_n {i : Fin 4} {x : Nat} (hdg : decode cc pc = .ok (.astore_n i, 1)) (hn : (i : Nat) < nL) (hl' : ((i : Nat), Value.ref x) :: lv.filter (fun q => !(q.1 == (i : Nat)) && !(q.1 + 1 == (i : Nat) && q.2.category == 2)) = lv') (h : V κ l D cA R cc nL own ret k n (pc + 1) lv' stk ws) : V κ l D cA R cc nL own ret k n pc lv (.ref x :: stk) ws := by
  obtain ⟨p, e, s, m, ar, below, meth, c, A, Q⟩ := κ
  intro K H locs ls hl hP hD hS
  exact lv_astore_n K.1 K.2.1 hdg rfl hl hn hl' (fun ls hl => h K H locs ls hl hP hD hS)
theorem z_astore {i : Nat} {x : Nat} (hdg : decode cc pc = .ok (.astore i, 2)) (hn : i < nL) (hl' : (i, Value.ref x) :: lv.filter (fun q => !(q.1 == i) && !(q.1 + 1 == i && q.2.category == 2)) = lv') (h : V κ l D cA R cc nL own ret k n (pc + 2) lv' stk ws) : V κ l D cA R cc nL own ret k n pc lv (.ref x :: stk) ws := by
  obtain ⟨p, e, s, m, ar, below, meth, c, A, Q⟩ := κ
  intro K H locs ls hl hP hD hS
  exact lv_astore K.1 K.2.1 hdg hl hn hl' (fun ls hl => h K H locs ls hl hP hD hS)
theorem z_iinc (j : Nat) {i : Nat} {c0 : Int} {x v : Int32} (hdg : decode cc pc = .ok (.iinc i c0, 3)) (hj : lv[j]? = some (i, .int x)) (hv : x + Int32.ofInt c0 = v) (hn : i < nL) (hl' : (i, Value.int v) :: lv.filter (fun q => !(q.1 == i) && !(q.1 + 1 == i && q.2.category == 2)) = lv') (h : V κ l D cA R cc nL own ret k n (pc + 3) lv' stk ws) : V κ l D cA R cc nL own ret k n pc lv stk ws := by
  obtain ⟨p, e, s, m, ar, below, meth, c, A, Q⟩ := κ
  intro K H locs ls hl hP hD hS
  exact lv_iinc K.1 K.2.1 hdg hl hj hv hn hl' (fun ls hl => h K H locs ls hl hP hD hS)
/-- the locals in another order, some forgotten -/
theorem z_lv (ks : List Nat) (hl' : lv_pick lv ks = lv') (h : V κ l D cA R cc nL own ret k n pc lv' stk ws) : V κ l D cA R cc nL own ret k n pc lv stk ws := by
  obtain ⟨p, e, s, m, ar, below, meth, c, A, Q⟩ := κ
  intro K H locs ls hl hP hD hS
  exact h K H locs ls (lv_sub hl ks hl') hP hD hS
theorem z_ws {ws' : va_W} (is : List Nat) (hn : va_nd is = true) (hs : is.map (fun i => ws[i]?) = ws'.map some) (h : V κ l D cA R cc nL own ret k n pc lv stk ws') : V κ l D cA R cc nL own ret k n pc lv stk ws := by
  obtain ⟨p, e, s, m, ar, below, meth, c, A, Q⟩ := κ
  intro K H locs ls hl hP hD hS
  refine h K H locs ls hl (hP.sub is ?_) (hD.sub is hn hs) hS
  have h1 : is.filterMap (fun i => ws[i]?) = (is.map (fun i => ws[i]?)).filterMap id := by rw [List.filterMap_map]; rfl
  rw [h1, hs, List.filterMap_map]
  simp
theorem z_wid {k' n' : Nat} (h1 : k ≤ k') (h2 : n ≤ n') (h : V κ l D cA R cc nL own ret k' n' pc lv stk ws) : V κ l D cA R cc nL own ret k n pc lv stk ws := by
  obtain ⟨p, e, s, m, ar, below, meth, c, A, Q⟩ := κ
  intro K H locs ls hl hP hD hS
  exact W.widen h1 h2 (h K H locs ls hl hP hD hS)
theorem z_iadd {x y : Int32} (hdg : decode cc pc = .ok (.iadd, 1)) (h : V κ l D cA R cc nL own ret k n (pc + 1) lv (.int (x + y) :: stk) ws) : V κ l D cA R cc nL own ret k n pc lv (.int y :: .int x :: stk) ws := by
  obtain ⟨p, e, s, m, ar, below, meth, c, A, Q⟩ := κ
  intro K H locs ls hl hP hD hS
  exact lv_iadd K.1 K.2.1 hdg (h K H locs ls hl hP hD hS)
theorem z_isub {x y : Int32} (hdg : decode cc pc = .ok (.isub, 1)) (h : V κ l D cA R cc nL own ret k n (pc + 1) lv (.int (x - y) :: stk) ws) : V κ l D cA R cc nL own ret k n pc lv (.int y :: .int x :: stk) ws := by
  obtain ⟨p, e, s, m, ar, below, meth, c, A, Q⟩ := κ
  intro K H locs ls hl hP hD hS
  exact lv_isub K.1 K.2.1 hdg (h K H locs ls hl hP hD hS)
theorem z_imul {x y : Int32} (hdg : decode cc pc = .ok (.imul, 1)) (h : V κ l D cA R cc nL own ret k n (pc + 1) lv (.int (x * y) :: stk) ws) : V κ l D cA R cc nL own ret k n pc lv (.int y :: .int x :: stk) ws := by
  obtain ⟨p, e, s, m, ar, below, meth, c, A, Q⟩ := κ
  intro K H locs ls hl hP hD hS
  exact lv_imul K.1 K.2.1 hdg (h K H locs ls hl hP hD hS)
theorem z_iand {x y : Int32} (hdg : decode cc pc = .ok (.iand, 1)) (h : V κ l D cA R cc nL own ret k n (pc + 1) lv (.int (x &&& y) :: stk) ws) : V κ l D cA R cc nL own ret k n pc lv (.int y :: .int x :: stk) ws := by
  obtain ⟨p, e, s, m, ar, below, meth, c, A, Q⟩ := κ
  intro K H locs ls hl hP hD hS
  exact lv_iand K.1 K.2.1 hdg (h K H locs ls hl hP hD hS)
theorem z_ior {x y : Int32} (hdg : decode cc pc = .ok (.ior, 1)) (h : V κ l D cA R cc nL own ret k n (pc + 1) lv (.int (x ||| y) :: stk) ws) : V κ l D cA R cc nL own ret k n pc lv (.int y :: .int x :: stk) ws := by
  obtain ⟨p, e, s, m, ar, below, meth, c, A, Q⟩ := κ
  intro K H locs ls hl hP hD hS
  exact lv_ior K.1 K.2.1 hdg (h K H locs ls hl hP hD hS)
theorem z_ixor {x y : Int32} (hdg : decode cc pc = .ok (.ixor, 1)) (h : V κ l D cA R cc nL own ret k n (pc + 1) lv (.int (x ^^^ y) :: stk) ws) : V κ l D cA R cc nL own ret k n pc lv (.int y :: .int x :: stk) ws := by
  obtain ⟨p, e, s, m, ar, below, meth, c, A, Q⟩ := κ
  intro K H locs ls hl hP hD hS
  exact lv_ixor K.1 K.2.1 hdg (h K H locs ls hl hP hD hS)
theorem z_ineg {x : Int32} (hdg : decode cc pc = .ok (.ineg, 1)) (h : V κ l D cA R cc nL own ret k n (pc + 1) lv (.int (-x) :: stk) ws) : V κ l D cA R cc nL own ret k n pc lv (.int x :: stk) ws := by
  obtain ⟨p, e, s, m, ar, below, meth, c, A, Q⟩ := κ
  intro K H locs ls hl hP hD hS
  exact lv_ineg K.1 K.2.1 hdg (h K H locs ls hl hP hD hS)
theorem z_idiv {α : Type} {x y : Int32} {a : Option α} {r : α} (hdg : decode cc pc = .ok (.idiv, 1)) (hf : (if y = 0 then none else a) = some r) (h : a = some r → V κ l D cA R cc nL own ret k n (pc + 1) lv (.int (x / y) :: stk) ws) : V κ l D cA R cc nL own ret k n pc lv (.int y :: .int x :: stk) ws := by
  obtain ⟨p, e, s, m, ar, below, meth, c, A, Q⟩ := κ
  intro K H locs ls hl hP hD hS
  by_cases hz : y = 0
  · rw [if_pos hz] at hf; cases hf
  · rw [if_neg hz] at hf
    exact lv_idiv K.1 K.2.1 hdg hz (h hf K H locs ls hl hP hD hS)
theorem z_irem {α : Type} {x y : Int32} {a : Option α} {r : α} (hdg : decode cc pc = .ok (.irem, 1)) (hf : (if y = 0 then none else a) = some r) (h : a = some r → V κ l D cA R cc nL own ret k n (pc + 1) lv (.int (x - x / y * y) :: stk) ws) : V κ l D cA R cc nL own ret k n pc lv (.int y :: .int x :: stk) ws := by
  obtain ⟨p, e, s, m, ar, below, meth, c, A, Q⟩ := κ
  intro K H locs ls hl hP hD hS
  by_cases hz : y = 0
  · rw [if_pos hz] at hf; cases hf
  · rw [if_neg hz] at hf
    exact lv_irem K.1 K.2.1 hdg hz (h hf K H locs ls hl hP hD hS)
theorem z_i2l {x : Int32} (hdg : decode cc pc = .ok (.i2l, 1)) (h : V κ l D cA R cc nL own ret k n (pc + 1) lv (.long x.toInt64 :: stk) ws) : V κ l D cA R cc nL own ret k n pc lv (.int x :: stk) ws := by
  obtain ⟨p, e, s, m, ar, below, meth, c, A, Q⟩ := κ
  intro K H locs ls hl hP hD hS
  exact lv_i2l K.1 K.2.1 hdg rfl (h K H locs ls hl hP hD hS)
theorem z_dup {v : Value} (hdg : decode cc pc = .ok (.dup, 1)) (hv : v.category = 1) (h : V κ l D cA R cc nL own ret k n (pc + 1) lv (v :: v :: stk) ws) : V κ l D cA R cc nL own ret k n pc lv (v :: stk) ws := by
  obtain ⟨p, e, s, m, ar, below, meth, c, A, Q⟩ := κ
  intro K H locs ls hl hP hD hS
  exact lv_dup K.1 K.2.1 hdg hv (h K H locs ls hl hP hD hS)
theorem z_pop {v : Value} (hdg : decode cc pc = .ok (.pop, 1)) (hv : v.category = 1) (h : V κ l D cA R cc nL own ret k n (pc + 1) lv stk ws) : V κ l D cA R cc nL own ret k n pc lv (v :: stk) ws := by
  obtain ⟨p, e, s, m, ar, below, meth, c, A, Q⟩ := κ
  intro K H locs ls hl hP hD hS
  exact lv_pop K.1 K.2.1 hdg hv (h K H locs ls hl hP hD hS)
theorem z_dup_x1 {v w : Value} (hdg : decode cc pc = .ok (.dup_x1, 1)) (hv : v.category = 1) (hw : w.category = 1) (h : V κ l D cA R cc nL own ret k n (pc + 1) lv (v :: w :: v :: stk) ws) : V κ l D cA R cc nL own ret k n pc lv (v :: w :: stk) ws := by
  obtain ⟨p, e, s, m, ar, below, meth, c, A, Q⟩ := κ
  intro K H locs ls hl hP hD hS
  exact lv_dup_x1 K.1 K.2.1 hdg hv hw (h K H locs ls hl hP hD hS)
theorem z_dup2 {v w : Value} (hdg : decode cc pc = .ok (.dup2, 1)) (hv : v.category = 1) (hw : w.category = 1) (h : V κ l D cA R cc nL own ret k n (pc + 1) lv (v :: w :: v :: w :: stk) ws) : V κ l D cA R cc nL own ret k n pc lv (v :: w :: stk) ws := by
  obtain ⟨p, e, s, m, ar, below, meth, c, A, Q⟩ := κ
  intro K H locs ls hl hP hD hS
  exact lv_dup2_11 K.1 K.2.1 hdg hv hw (h K H locs ls hl hP hD hS)
theorem z_goto {off : Int} {tgt : Nat} (hdg : decode cc pc = .ok (.goto off, 3)) (ht : (pc : Int) + off = (tgt : Int)) (h : V κ l D cA R cc nL own ret k n tgt lv stk ws) : V κ l D cA R cc nL own ret k n pc lv stk ws := by
  obtain ⟨p, e, s, m, ar, below, meth, c, A, Q⟩ := κ
  intro K H locs ls hl hP hD hS
  exact lv_goto K.1 K.2.1 hdg ht (h K H locs ls hl hP hD hS)
theorem y_if_eq {x : Int32} {off : Int} {tgt : Nat} (hdg : decode cc pc = .ok (.ifCond .eq off, 3)) (ht : (pc : Int) + off = (tgt : Int)) (kt : x = 0 → V κ l D cA R cc nL own ret k n tgt lv stk ws) (kf : ¬ x = 0 → V κ l D cA R cc nL own ret k n (pc + 3) lv stk ws) : V κ l D cA R cc nL own ret k n pc lv (.int x :: stk) ws := by
  obtain ⟨p, e, s, m, ar, below, meth, c, A, Q⟩ := κ
  intro K H locs ls hl hP hD hS
  exact lv_if_eq K.1 K.2.1 hdg ht (fun hc => kt hc K H locs ls hl hP hD hS) (fun hc => kf hc K H locs ls hl hP hD hS)
theorem z_if_eq {α : Type} {x : Int32} {a b r : α} {off : Int} {tgt : Nat} (hdg : decode cc pc = .ok (.ifCond .eq off, 3)) (ht : (pc : Int) + off = (tgt : Int)) (hf : (if x = 0 then a else b) = r) (kt : a = r → V κ l D cA R cc nL own ret k n tgt lv stk ws) (kf : b = r → V κ l D cA R cc nL own ret k n (pc + 3) lv stk ws) : V κ l D cA R cc nL own ret k n pc lv (.int x :: stk) ws :=
  y_if_eq hdg ht (fun hc => kt (fp hc hf)) (fun hc => kf (fn hc hf))
theorem y_if_ne {x : Int32} {off : Int} {tgt : Nat} (hdg : decode cc pc = .ok (.ifCond .ne off, 3)) (ht : (pc : Int) + off = (tgt : Int)) (kt : ¬ x = 0 → V κ l D cA R cc nL own ret k n tgt lv stk ws) (kf : x = 0 → V κ l D cA R cc nL own ret k n (pc + 3) lv stk ws) : V κ l D cA R cc nL own ret k n pc lv (.int x :: stk) ws := by
  obtain ⟨p, e, s, m, ar, below, meth, c, A, Q⟩ := κ
  intro K H locs ls hl hP hD hS
  exact lv_if_ne K.1 K.2.1 hdg ht (fun hc => kt hc K H locs ls hl hP hD hS) (fun hc => kf hc K H locs ls hl hP hD hS)
theorem z_if_ne {α : Type} {x : Int32} {a b r : α} {off : Int} {tgt : Nat} (hdg : decode cc pc = .ok (.ifCond .ne off, 3)) (ht : (pc : Int) + off = (tgt : Int)) (hf : (if x = 0 then a else b) = r) (kt : b = r → V κ l D cA R cc nL own ret k n tgt lv stk ws) (kf : a = r → V κ l D cA R cc nL own ret k n (pc + 3) lv stk ws) : V κ l D cA R cc nL own ret k n pc lv (.int x :: stk) ws :=
  y_if_ne hdg ht (fun hc => kt (fn hc hf)) (fun hc => kf (fp hc hf))
theorem y_if_lt {x : Int32} {off : Int} {tgt : Nat} (hdg : decode cc pc = .ok (.ifCond .lt off, 3)) (ht : (pc : Int) + off = (tgt : Int)) (kt : x < 0 → V κ l D cA R cc nL own ret k n tgt lv stk ws) (kf : ¬ x < 0 → V κ l D cA R cc nL own ret k n (pc + 3) lv stk ws) : V κ l D cA R cc nL own ret k n pc lv (.int x :: stk) ws := by
  obtain ⟨p, e, s, m, ar, below, meth, c, A, Q⟩ := κ
  intro K H locs ls hl hP hD hS
  exact lv_if_lt K.1 K.2.1 hdg ht (fun hc => kt hc K H locs ls hl hP hD hS) (fun hc => kf hc K H locs ls hl hP hD hS)
theorem z_if_lt {α : Type} {x : Int32} {a b r : α} {off : Int} {tgt : Nat} (hdg : decode cc pc = .ok (.ifCond .lt off, 3)) (ht : (pc : Int) + off = (tgt : Int)) (hf : (if x < 0 then a else b) = r) (kt : a = r → V κ l D cA R cc nL own ret k n tgt lv stk ws) (kf : b = r → V κ l D cA R cc nL own ret k n (pc + 3) lv stk ws) : V κ l D cA R cc nL own ret k n pc lv (.int x :: stk) ws :=
  y_if_lt hdg ht (fun hc => kt (fp hc hf)) (fun hc => kf (fn hc hf))
theorem y_if_ge {x : Int32} {off : Int} {tgt : Nat} (hdg : decode cc pc = .ok (.ifCond .ge off, 3)) (ht : (pc : Int) + off = (tgt : Int)) (kt : 0 ≤ x → V κ l D cA R cc nL own ret k n tgt lv stk ws) (kf : ¬ 0 ≤ x → V κ l D cA R cc nL own ret k n (pc + 3) lv stk ws) : V κ l D cA R cc nL own ret k n pc lv (.int x :: stk) ws := by
  obtain ⟨p, e, s, m, ar, below, meth, c, A, Q⟩ := κ
  intro K H locs ls hl hP hD hS
  exact lv_if_ge K.1 K.2.1 hdg ht (fun hc => kt hc K H locs ls hl hP hD hS) (fun hc => kf hc K H locs ls hl hP hD hS)
theorem z_if_ge {α : Type} {x : Int32} {a b r : α} {off : Int} {tgt : Nat} (hdg : decode cc pc = .ok (.ifCond .ge off, 3)) (ht : (pc : Int) + off = (tgt : Int)) (hf : (if 0 ≤ x then a else b) = r) (kt : a = r → V κ l D cA R cc nL own ret k n tgt lv stk ws) (kf : b = r → V κ l D cA R cc nL own ret k n (pc + 3) lv stk ws) : V κ l D cA R cc nL own ret k n pc lv (.int x :: stk) ws :=
  y_if_ge hdg ht (fun hc => kt (fp hc hf)) (fun hc => kf (fn hc hf))
theorem y_if_gt {x : Int32} {off : Int} {tgt : Nat} (hdg : decode cc pc = .ok (.ifCond .gt off, 3)) (ht : (pc : Int) + off = (tgt : Int)) (kt : 0 < x → V κ l D cA R cc nL own ret k n tgt lv stk ws) (kf : ¬ 0 < x → V κ l D cA R cc nL own ret k n (pc + 3) lv stk ws) : V κ l D cA R cc nL own ret k n pc lv (.int x :: stk) ws := by
  obtain ⟨p, e, s, m, ar, below, meth, c, A, Q⟩ := κ
  intro K H locs ls hl hP hD hS
  exact lv_if_gt K.1 K.2.1 hdg ht (fun hc => kt hc K H locs ls hl hP hD hS) (fun hc => kf hc K H locs ls hl hP hD hS)
theorem z_if_gt {α : Type} {x : Int32} {a b r : α} {off : Int} {tgt : Nat} (hdg : decode cc pc = .ok (.ifCond .gt off, 3)) (ht : (pc : Int) + off = (tgt : Int)) (hf : (if 0 < x then a else b) = r) (kt : a = r → V κ l D cA R cc nL own ret k n tgt lv stk ws) (kf : b = r → V κ l D cA R cc nL own ret k n (pc + 3) lv stk ws) : V κ l D cA R cc nL own ret k n pc lv (.int x :: stk) ws :=
  y_if_gt hdg ht (fun hc => kt (fp hc hf)) (fun hc => kf (fn hc hf))
theorem y_if_le {x : Int32} {off : Int} {tgt : Nat} (hdg : decode cc pc = .ok (.ifCond .le off, 3)) (ht : (pc : Int) + off = (tgt : Int)) (kt : x ≤ 0 → V κ l D cA R cc nL own ret k n tgt lv stk ws) (kf : ¬ x ≤ 0 → V κ l D cA R cc nL own ret k n (pc + 3) lv stk ws) : V κ l D cA R cc nL own ret k n pc lv (.int x :: stk) ws := by
  obtain ⟨p, e, s, m, ar, below, meth, c, A, Q⟩ := κ
  intro K H locs ls hl hP hD hS
  exact lv_if_le K.1 K.2.1 hdg ht (fun hc => kt hc K H locs ls hl hP hD hS) (fun hc => kf hc K H locs ls hl hP hD hS)
theorem z_if_le {α : Type} {x : Int32} {a b r : α} {off : Int} {tgt : Nat} (hdg : decode cc pc = .ok (.ifCond .le off, 3)) (ht : (pc : Int) + off = (tgt : Int)) (hf : (if x ≤ 0 then a else b) = r) (kt : a = r → V κ l D cA R cc nL own ret k n tgt lv stk ws) (kf : b = r → V κ l D cA R cc nL own ret k n (pc + 3) lv stk ws) : V κ l D cA R cc nL own ret k n pc lv (.int x :: stk) ws :=
  y_if_le hdg ht (fun hc => kt (fp hc hf)) (fun hc => kf (fn hc hf))
theorem y_icmp_eq {x y : Int32} {off : Int} {tgt : Nat} (hdg : decode cc pc = .ok (.if_icmp .eq off, 3)) (ht : (pc : Int) + off = (tgt : Int)) (kt : x = y → V κ l D cA R cc nL own ret k n tgt lv stk ws) (kf : ¬ x = y → V κ l D cA R cc nL own ret k n (pc + 3) lv stk ws) : V κ l D cA R cc nL own ret k n pc lv (.int y :: .int x :: stk) ws := by
  obtain ⟨p, e, s, m, ar, below, meth, c, A, Q⟩ := κ
  intro K H locs ls hl hP hD hS
  exact lv_icmp_eq K.1 K.2.1 hdg ht (fun hc => kt hc K H locs ls hl hP hD hS) (fun hc => kf hc K H locs ls hl hP hD hS)
theorem z_icmp_eq {α : Type} {x y : Int32} {a b r : α} {off : Int} {tgt : Nat} (hdg : decode cc pc = .ok (.if_icmp .eq off, 3)) (ht : (pc : Int) + off = (tgt : Int)) (hf : (if x = y then a else b) = r) (kt : a = r → V κ l D cA R cc nL own ret k n tgt lv stk ws) (kf : b = r → V κ l D cA R cc nL own ret k n (pc + 3) lv stk ws) : V κ l D cA R cc nL own ret k n pc lv (.int y :: .int x :: stk) ws :=
  y_icmp_eq hdg ht (fun hc => kt (fp hc hf)) (fun hc => kf (fn hc hf))
theorem y_icmp_ne {x y : Int32} {off : Int} {tgt : Nat} (hdg : decode cc pc = .ok (.if_icmp .ne off, 3)) (ht : (pc : Int) + off = (tgt : Int)) (kt : ¬ x = y → V κ l D cA R cc nL own ret k n tgt lv stk ws) (kf : x = y → V κ l D cA R cc nL own ret k n (pc + 3) lv stk ws) : V κ l D cA R cc nL own ret k n pc lv (.int y :: .int x :: stk) ws := by
  obtain ⟨p, e, s, m, ar, below, meth, c, A, Q⟩ := κ
  intro K H locs ls hl hP hD hS
  exact lv_icmp_ne K.1 K.2.1 hdg ht (fun hc => kt hc K H locs ls hl hP hD hS) (fun hc => kf hc K H locs ls hl hP hD hS)
theorem z_icmp_ne {α : Type} {x y : Int32} {a b r : α} {off : Int} {tgt : Nat} (hdg : decode cc pc = .ok (.if_icmp .ne off, 3)) (ht : (pc : Int) + off = (tgt : Int)) (hf : (if x = y then a else b) = r) (kt : b = r → V κ l D cA R cc nL own ret k n tgt lv stk ws) (kf : a = r → V κ l D cA R cc nL own ret k n (pc + 3) lv stk ws) : V κ l D cA R cc nL own ret k n pc lv (.int y :: .int x :: stk) ws :=
  y_icmp_ne hdg ht (fun hc => kt (fn hc hf)) (fun hc => kf (fp hc hf))
theorem y_icmp_lt {x y : Int32} {off : Int} {tgt : Nat} (hdg : decode cc pc = .ok (.if_icmp .lt off, 3)) (ht : (pc : Int) + off = (tgt : Int)) (kt : x < y → V κ l D cA R cc nL own ret k n tgt lv stk ws) (kf : ¬ x < y → V κ l D cA R cc nL own ret k n (pc + 3) lv stk ws) : V κ l D cA R cc nL own ret k n pc lv (.int y :: .int x :: stk) ws := by
  obtain ⟨p, e, s, m, ar, below, meth, c, A, Q⟩ := κ
  intro K H locs ls hl hP hD hS
  exact lv_icmp_lt K.1 K.2.1 hdg ht (fun hc => kt hc K H locs ls hl hP hD hS) (fun hc => kf hc K H locs ls hl hP hD hS)
theorem z_icmp_lt {α : Type} {x y : Int32} {a b r : α} {off : Int} {tgt : Nat} (hdg : decode cc pc = .ok (.if_icmp .lt off, 3)) (ht : (pc : Int) + off = (tgt : Int)) (hf : (if x < y then a else b) = r) (kt : a = r → V κ l D cA R cc nL own ret k n tgt lv stk ws) (kf : b = r → V κ l D cA R cc nL own ret k n (pc + 3) lv stk ws) : V κ l D cA R cc nL own ret k n pc lv (.int y :: .int x :: stk) ws :=
  y_icmp_lt hdg ht (fun hc => kt (fp hc hf)) (fun hc => kf (fn hc hf))
theorem y_icmp_ge {x y : Int32} {off : Int} {tgt : Nat} (hdg : decode cc pc = .ok (.if_icmp .ge off, 3)) (ht : (pc : Int) + off = (tgt : Int)) (kt : y ≤ x → V κ l D cA R cc nL own ret k n tgt lv stk ws) (kf : ¬ y ≤ x → V κ l D cA R cc nL own ret k n (pc + 3) lv stk ws) : V κ l D cA R cc nL own ret k n pc lv (.int y :: .int x :: stk) ws := by
  obtain ⟨p, e, s, m, ar, below, meth, c, A, Q⟩ := κ
  intro K H locs ls hl hP hD hS
  exact lv_icmp_ge K.1 K.2.1 hdg ht (fun hc => kt hc K H locs ls hl hP hD hS) (fun hc => kf hc K H locs ls hl hP hD hS)
theorem z_icmp_ge {α : Type} {x y : Int32} {a b r : α} {off : Int} {tgt : Nat} (hdg : decode cc pc = .ok (.if_icmp .ge off, 3)) (ht : (pc : Int) + off = (tgt : Int)) (hf : (if y ≤ x then a else b) = r) (kt : a = r → V κ l D cA R cc nL own ret k n tgt lv stk ws) (kf : b = r → V κ l D cA R cc nL own ret k n (pc + 3) lv stk ws) : V κ l D cA R cc nL own ret k n pc lv (.int y :: .int x :: stk) ws :=
  y_icmp_ge hdg ht (fun hc => kt (fp hc hf)) (fun hc => kf (fn hc hf))
theorem y_icmp_gt {x y : Int32} {off : Int} {tgt : Nat} (hdg : decode cc pc = .ok (.if_icmp .gt off, 3)) (ht : (pc : Int) + off = (tgt : Int)) (kt : y < x → V κ l D cA R cc nL own ret k n tgt lv stk ws) (kf : ¬ y < x → V κ l D cA R cc nL own ret k n (pc + 3) lv stk ws) : V κ l D cA R cc nL own ret k n pc lv (.int y :: .int x :: stk) ws := by
  obtain ⟨p, e, s, m, ar, below, meth, c, A, Q⟩ := κ
  intro K H locs ls hl hP hD hS
  exact lv_icmp_gt K.1 K.2.1 hdg ht (fun hc => kt hc K H locs ls hl hP hD hS) (fun hc => kf hc K H locs ls hl hP hD hS)
theorem z_icmp_gt {α : Type} {x y : Int32} {a b r : α} {off : Int} {tgt : Nat} (hdg : decode cc pc = .ok (.if_icmp .gt off, 3)) (ht : (pc : Int) + off = (tgt : Int)) (hf : (if y < x then a else b) = r) (kt : a = r → V κ l D cA R cc nL own ret k n tgt lv stk ws) (kf : b = r → V κ l D cA R cc nL own ret k n (pc + 3) lv stk ws) : V κ l D cA R cc nL own ret k n pc lv (.int y :: .int x :: stk) ws :=
  y_icmp_gt hdg ht (fun hc => kt (fp hc hf)) (fun hc => kf (fn hc hf))
theorem y_icmp_le {x y : Int32} {off : Int} {tgt : Nat} (hdg : decode cc pc = .ok (.if_icmp .le off, 3)) (ht : (pc : Int) + off = (tgt : Int)) (kt : x ≤ y → V κ l D cA R cc nL own ret k n tgt lv stk ws) (kf : ¬ x ≤ y → V κ l D cA R cc nL own ret k n (pc + 3) lv stk ws) : V κ l D cA R cc nL own ret k n pc lv (.int y :: .int x :: stk) ws := by
  obtain ⟨p, e, s, m, ar, below, meth, c, A, Q⟩ := κ
  intro K H locs ls hl hP hD hS
  exact lv_icmp_le K.1 K.2.1 hdg ht (fun hc => kt hc K H locs ls hl hP hD hS) (fun hc => kf hc K H locs ls hl hP hD hS)
theorem z_icmp_le {α : Type} {x y : Int32} {a b r : α} {off : Int} {tgt : Nat} (hdg : decode cc pc = .ok (.if_icmp .le off, 3)) (ht : (pc : Int) + off = (tgt : Int)) (hf : (if x ≤ y then a else b) = r) (kt : a = r → V κ l D cA R cc nL own ret k n tgt lv stk ws) (kf : b = r → V κ l D cA R cc nL own ret k n (pc + 3) lv stk ws) : V κ l D cA R cc nL own ret k n pc lv (.int y :: .int x :: stk) ws :=
  y_icmp_le hdg ht (fun hc => kt (fp hc hf)) (fun hc => kf (fn hc hf))
theorem z_iaload {α : Type} (q t : Nat) {ad : Nat} {cL : ClassId} {N : Nat} {f : Nat → Int32} {i : Int32} {a : Option α} {r : α} (he : ws[q]? = some (ad, .inl (cL, N, .inl f))) (ht : (tys cA)[t]? = some (cL, .int)) (hdg : decode cc pc = .ok (.iaload, 1)) (hf : (if i < 0 ∨ N ≤ i.toNatClampNeg then none else a) = some r) (h : a = some r → V κ l D cA R cc nL own ret k n (pc + 1) lv (.int (f i.toNatClampNeg) :: stk) ws) : V κ l D cA R cc nL own ret k n pc lv (.int i :: .ref ad :: stk) ws := by
  obtain ⟨p, e, s, m, ar, below, meth, c, A, Q⟩ := κ
  intro K H locs ls hl hP hD hS
  by_cases hz : i < 0 ∨ N ≤ i.toNatClampNeg
  · rw [if_pos hz] at hf; cases hf
  · rw [if_neg hz] at hf
    exact va_iald K.1 K.2.1 K.2.2.2.2.2.2.2.1 hP q t he ht hz hdg (h hf K H locs ls hl hP hD hS)
theorem z_zaload {α : Type} (q t : Nat) {ad : Nat} {cL : ClassId} {N : Nat} {f : Nat → Int32} {i : Int32} {a : Option α} {r : α} (he : ws[q]? = some (ad, .inl (cL, N, .inl f))) (ht : (tys cA)[t]? = some (cL, .boolean)) (hdg : decode cc pc = .ok (.baload, 1)) (hf : (if i < 0 ∨ N ≤ i.toNatClampNeg then none else a) = some r) (h : a = some r → V κ l D cA R cc nL own ret k n (pc + 1) lv (.int (f i.toNatClampNeg) :: stk) ws) : V κ l D cA R cc nL own ret k n pc lv (.int i :: .ref ad :: stk) ws := by
  obtain ⟨p, e, s, m, ar, below, meth, c, A, Q⟩ := κ
  intro K H locs ls hl hP hD hS
  by_cases hz : i < 0 ∨ N ≤ i.toNatClampNeg
  · rw [if_pos hz] at hf; cases hf
  · rw [if_neg hz] at hf
    exact va_zald K.1 K.2.1 K.2.2.2.2.2.2.2.1 hP q t he ht hz hdg (h hf K H locs ls hl hP hD hS)
theorem z_caload {α : Type} (q t : Nat) {ad : Nat} {cL : ClassId} {N : Nat} {f : Nat → Int32} {i : Int32} {a : Option α} {r : α} (he : ws[q]? = some (ad, .inl (cL, N, .inl f))) (ht : (tys cA)[t]? = some (cL, .char)) (hdg : decode cc pc = .ok (.caload, 1)) (hf : (if i < 0 ∨ N ≤ i.toNatClampNeg then none else a) = some r) (h : a = some r → V κ l D cA R cc nL own ret k n (pc + 1) lv (.int (f i.toNatClampNeg) :: stk) ws) : V κ l D cA R cc nL own ret k n pc lv (.int i :: .ref ad :: stk) ws := by
  obtain ⟨p, e, s, m, ar, below, meth, c, A, Q⟩ := κ
  intro K H locs ls hl hP hD hS
  by_cases hz : i < 0 ∨ N ≤ i.toNatClampNeg
  · rw [if_pos hz] at hf; cases hf
  · rw [if_neg hz] at hf
    exact va_cald K.1 K.2.1 K.2.2.2.2.2.2.2.1 hP q t he ht hz hdg (h hf K H locs ls hl hP hD hS)
theorem z_laload {α : Type} (q t : Nat) {ad : Nat} {cL : ClassId} {N : Nat} {f : Nat → Int64} {i : Int32} {a : Option α} {r : α} (he : ws[q]? = some (ad, .inl (cL, N, .inr (.inl f)))) (ht : (tys cA)[t]? = some (cL, .long)) (hdg : decode cc pc = .ok (.laload, 1)) (hf : (if i < 0 ∨ N ≤ i.toNatClampNeg then none else a) = some r) (h : a = some r → V κ l D cA R cc nL own ret k n (pc + 1) lv (.long (f i.toNatClampNeg) :: stk) ws) : V κ l D cA R cc nL own ret k n pc lv (.int i :: .ref ad :: stk) ws := by
  obtain ⟨p, e, s, m, ar, below, meth, c, A, Q⟩ := κ
  intro K H locs ls hl hP hD hS
  by_cases hz : i < 0 ∨ N ≤ i.toNatClampNeg
  · rw [if_pos hz] at hf; cases hf
  · rw [if_neg hz] at hf
    exact va_lald K.1 K.2.1 K.2.2.2.2.2.2.2.1 hP q t he ht hz hdg (h hf K H locs ls hl hP hD hS)
theorem z_iastore {α : Type} (q t : Nat) {ad : Nat} {cL : ClassId} {N : Nat} {f : Nat → Int32} {i : Int32} {x : Int32} {a : Option α} {r : α} {ws' : va_W} (he : ws[q]? = some (ad, .inl (cL, N, .inl f))) (ht : (tys cA)[t]? = some (cL, .int)) (hdg : decode cc pc = .ok (.iastore, 1)) (hw : ws.set q (ad, .inl (cL, N, .inl (upd f i.toNatClampNeg x))) = ws') (hf : (if i < 0 ∨ N ≤ i.toNatClampNeg then none else a) = some r) (h : a = some r → V κ l D cA R cc nL own ret k n (pc + 1) lv stk ws') : V κ l D cA R cc nL own ret k n pc lv (.int x :: .int i :: .ref ad :: stk) ws := by
  obtain ⟨p, e, s, m, ar, below, meth, c, A, Q⟩ := κ
  intro K H locs ls hl hP hD hS
  subst hw
  by_cases hz : i < 0 ∨ N ≤ i.toNatClampNeg
  · rw [if_pos hz] at hf; cases hf
  · rw [if_neg hz] at hf
    exact va_iast K.1 K.2.1 K.2.2.2.2.2.2.2.1 hP hD hS q t he ht hz hdg (fun H locs hP hD hS => h hf K H locs ls hl hP hD hS)
theorem z_zastore {α : Type} (q t : Nat) {ad : Nat} {cL : ClassId} {N : Nat} {f : Nat → Int32} {i : Int32} {x : Int32} {a : Option α} {r : α} {ws' : va_W} (he : ws[q]? = some (ad, .inl (cL, N, .inl f))) (ht : (tys cA)[t]? = some (cL, .boolean)) (hdg : decode cc pc = .ok (.bastore, 1)) (hw : ws.set q (ad, .inl (cL, N, .inl (upd f i.toNatClampNeg (vp_nar .boolean x)))) = ws') (hf : (if i < 0 ∨ N ≤ i.toNatClampNeg then none else a) = some r) (h : a = some r → V κ l D cA R cc nL own ret k n (pc + 1) lv stk ws') : V κ l D cA R cc nL own ret k n pc lv (.int x :: .int i :: .ref ad :: stk) ws := by
  obtain ⟨p, e, s, m, ar, below, meth, c, A, Q⟩ := κ
  intro K H locs ls hl hP hD hS
  subst hw
  by_cases hz : i < 0 ∨ N ≤ i.toNatClampNeg
  · rw [if_pos hz] at hf; cases hf
  · rw [if_neg hz] at hf
    exact va_zast K.1 K.2.1 K.2.2.2.2.2.2.2.1 hP hD hS q t he ht hz hdg (fun H locs hP hD hS => h hf K H locs ls hl hP hD hS)
theorem z_castore {α : Type} (q t : Nat) {ad : Nat} {cL : ClassId} {N : Nat} {f : Nat → Int32} {i : Int32} {x : Int32} {a : Option α} {r : α} {ws' : va_W} (he : ws[q]? = some (ad, .inl (cL, N, .inl f))) (ht : (tys cA)[t]? = some (cL, .char)) (hdg : decode cc pc = .ok (.castore, 1)) (hw : ws.set q (ad, .inl (cL, N, .inl (upd f i.toNatClampNeg (vp_nar .char x)))) = ws') (hf : (if i < 0 ∨ N ≤ i.toNatClampNeg then none else a) = some r) (h : a = some r → V κ l D cA R cc nL own ret k n (pc + 1) lv stk ws') : V κ l D cA R cc nL own ret k n pc lv (.int x :: .int i :: .ref ad :: stk) ws := by
  obtain ⟨p, e, s, m, ar, below, meth, c, A, Q⟩ := κ
  intro K H locs ls hl hP hD hS
  subst hw
  by_cases hz : i < 0 ∨ N ≤ i.toNatClampNeg
  · rw [if_pos hz] at hf; cases hf
  · rw [if_neg hz] at hf
    exact va_cast K.1 K.2.1 K.2.2.2.2.2.2.2.1 hP hD hS q t he ht hz hdg (fun H locs hP hD hS => h hf K H locs ls hl hP hD hS)
theorem z_lastore {α : Type} (q t : Nat) {ad : Nat} {cL : ClassId} {N : Nat} {f : Nat → Int64} {i : Int32} {x : Int64} {a : Option α} {r : α} {ws' : va_W} (he : ws[q]? = some (ad, .inl (cL, N, .inr (.inl f)))) (ht : (tys cA)[t]? = some (cL, .long)) (hdg : decode cc pc = .ok (.lastore, 1)) (hw : ws.set q (ad, .inl (cL, N, .inr (.inl (vp_updL f i.toNatClampNeg x)))) = ws') (hf : (if i < 0 ∨ N ≤ i.toNatClampNeg then none else a) = some r) (h : a = some r → V κ l D cA R cc nL own ret k n (pc + 1) lv stk ws') : V κ l D cA R cc nL own ret k n pc lv (.long x :: .int i :: .ref ad :: stk) ws := by
  obtain ⟨p, e, s, m, ar, below, meth, c, A, Q⟩ := κ
  intro K H locs ls hl hP hD hS
  subst hw
  by_cases hz : i < 0 ∨ N ≤ i.toNatClampNeg
  · rw [if_pos hz] at hf; cases hf
  · rw [if_neg hz] at hf
    exact va_last K.1 K.2.1 K.2.2.2.2.2.2.2.1 hP hD hS q t he ht hz hdg (fun H locs hP hD hS => h hf K H locs ls hl hP hD hS)
theorem z_aaload {α : Type} (q t : Nat) {ad : Nat} {cL : ClassId} {N : Nat} {C : String} {f : Nat → Option Nat} {i : Int32} {a : Option α} {r : α} (he : ws[q]? = some (ad, .inl (cL, N, .inr (.inr (.inr (.inr f)))))) (ht : (tys cA)[t]? = some (cL, .object C)) (hdg : decode cc pc = .ok (.aaload, 1)) (hf : (if i < 0 ∨ N ≤ i.toNatClampNeg then none else a) = some r) (h : a = some r → i.toNatClampNeg < N → V κ l D cA R cc nL own ret k n (pc + 1) lv (va_rf (f i.toNatClampNeg) :: stk) ws) : V κ l D cA R cc nL own ret k n pc lv (.int i :: .ref ad :: stk) ws := by
  obtain ⟨p, e, s, m, ar, below, meth, c, A, Q⟩ := κ
  intro K H locs ls hl hP hD hS
  by_cases hz : i < 0 ∨ N ≤ i.toNatClampNeg
  · rw [if_pos hz] at hf; cases hf
  · rw [if_neg hz] at hf
    exact va_aldq K.1 K.2.1 K.2.2.2.2.2.2.2.1 hP q t he ht hz hdg (h hf (Nat.not_le.mp fun z => hz (Or.inr z)) K H locs ls hl hP hD hS)
theorem z_alen (q t : Nat) {ad : Nat} {cL : ClassId} {x : vp_A} {ty : FieldType} {v : Int32} (he : ws[q]? = some (ad, .inl (cL, x))) (ht : (tys cA)[t]? = some (cL, ty)) (hv : Int32.ofNat x.1 = v) (hdg : decode cc pc = .ok (.arraylength, 1)) (h : V κ l D cA R cc nL own ret k n (pc + 1) lv (.int v :: stk) ws) : V κ l D cA R cc nL own ret k n pc lv (.ref ad :: stk) ws := by
  obtain ⟨p, e, s, m, ar, below, meth, c, A, Q⟩ := κ
  intro K H locs ls hl hP hD hS
  exact va_alen K.1 K.2.1 K.2.2.2.2.2.2.2.1 hP q t he ht hv hdg (h K H locs ls hl hP hD hS)
theorem z_get (q j : Nat) {ad idx ci N : Nat} {C : String} {T : u_T} {fs : List Value} {v : Value} (he : ws[q]? = some (ad, .inr (ci, fs))) (hc : vwCl[ci]? = some (C, T, N)) (hin : ∀ w ∈ u_ws C T N, w ∈ tblG) (hk : j < N) (hlink : Cond.fieldLink own idx (T j).1 (T j).2.1 (T j).2.2.1 ∈ tblG) (hv : fs[j]? = some v) (hdg : decode cc pc = .ok (.getfield idx, 3)) (h : V κ l D cA R cc nL own ret k n (pc + 3) lv (v :: stk) ws) : V κ l D cA R cc nL own ret k n pc lv (.ref ad :: stk) ws := by
  obtain ⟨p, e, s, m, ar, below, meth, c, A, Q⟩ := κ
  intro K H locs ls hl hP hD hS
  exact va_get K.1 K.2.1 K.2.2.2.2.1 hin K.2.2.2.1 K.2.2.2.2.2.2.2.1 hP q he hc j hk (K.2.2.2.2.1 _ hlink) (fun _ h9 => h9) hv hdg (h K H locs ls hl hP hD hS)
theorem z_put (q j : Nat) {ad idx ci N : Nat} {C : String} {T : u_T} {fs : List Value} {v : Value} {ty : FieldType} {ws' : va_W} (he : ws[q]? = some (ad, .inr (ci, fs))) (hc : vwCl[ci]? = some (C, T, N)) (hin : ∀ w ∈ u_ws C T N, w ∈ tblG) (ty0 : Nat → FieldType) (hty : ∀ a, a < N → parseFieldDescriptor (T a).2.2.1 = some (ty0 a)) (hnm : ∀ a, a < N → ∀ b, b < N → a ≠ b → (T a).2.1 ≠ (T b).2.1) (hk : j < N) (hlink : Cond.fieldLink own idx (T j).1 (T j).2.1 (T j).2.2.1 ∈ tblG) (hfin : (T j).2.2.2 = false) (hd : ty0 j = ty) (hn : narrow ty v = v) (hfit : fits ty v = true) (hl0 : j < fs.length) (hdg : decode cc pc = .ok (.putfield idx, 3)) (hw : ws.set q (ad, .inr (ci, fs.set j v)) = ws') (h : V κ l D cA R cc nL own ret k n (pc + 3) lv stk ws') : V κ l D cA R cc nL own ret k n pc lv (v :: .ref ad :: stk) ws := by
  obtain ⟨p, e, s, m, ar, below, meth, c, A, Q⟩ := κ
  intro K H locs ls hl hP hD hS
  subst hw; subst hd
  exact va_put K.1 K.2.1 K.2.2.2.2.1 hin ty0 hty hnm K.2.2.2.1 K.2.2.2.2.2.2.2.1 hP hD hS q he hc j hk (K.2.2.2.2.1 _ hlink) (fun _ h9 => h9) hfin (hty j hk) hn hfit hl0 hdg (fun H locs hP hD hS => h K H locs ls hl hP hD hS)
theorem z_mmax {idx : Nat} {x y : Int32} (hlink : Cond.methodLink own idx Lib.Math.max.name ∈ tblG) (hst : Cond.static Lib.Math.max.name ∈ tblG) (hini : Cond.initialized "java/lang/Math" ∈ tblG) (hcode : Cond.code Lib.Math.max.name Lib.Math.max.code 2 (some .int) ∈ tblG) (hfr : 1 ≤ R.frames) (hlo : (stk.map fun v => v.category).sum + 13 ≤ R.locals) (hk : k ≤ R.cells) (hn : n ≤ R.slots) (hdg : decode cc pc = .ok (.invokestatic idx, 3)) (h : V κ l D cA R cc nL own ret k n (pc + 3) lv (.int (if x < y then y else x) :: stk) ws) : V κ l D cA R cc nL own ret k n pc lv (.int y :: .int x :: stk) ws := by
  obtain ⟨p, e, s, m, ar, below, meth, c, A, Q⟩ := κ
  intro K H locs ls hl hP hD hS
  exact va_mmax K.1 K.2.1 (K.2.2.1.trans hl.1.symm) K.2.2.2.1 (K.2.2.2.2.1 _ hlink) (K.2.2.2.2.1 _ hst) (K.2.2.2.2.1 _ hini) (K.2.2.2.2.1 _ hcode) hfr hlo hk hn hdg (h K H locs ls hl hP hD hS)
theorem z_mmin {idx : Nat} {x y : Int32} (hlink : Cond.methodLink own idx Lib.Math.min.name ∈ tblG) (hst : Cond.static Lib.Math.min.name ∈ tblG) (hini : Cond.initialized "java/lang/Math" ∈ tblG) (hcode : Cond.code Lib.Math.min.name Lib.Math.min.code 2 (some .int) ∈ tblG) (hfr : 1 ≤ R.frames) (hlo : (stk.map fun v => v.category).sum + 13 ≤ R.locals) (hk : k ≤ R.cells) (hn : n ≤ R.slots) (hdg : decode cc pc = .ok (.invokestatic idx, 3)) (h : V κ l D cA R cc nL own ret k n (pc + 3) lv (.int (if y < x then y else x) :: stk) ws) : V κ l D cA R cc nL own ret k n pc lv (.int y :: .int x :: stk) ws := by
  obtain ⟨p, e, s, m, ar, below, meth, c, A, Q⟩ := κ
  intro K H locs ls hl hP hD hS
  exact va_mmin K.1 K.2.1 (K.2.2.1.trans hl.1.symm) K.2.2.2.1 (K.2.2.2.2.1 _ hlink) (K.2.2.2.2.1 _ hst) (K.2.2.2.2.1 _ hini) (K.2.2.2.2.1 _ hcode) hfr hlo hk hn hdg (h K H locs ls hl hP hD hS)
theorem z_mabs {idx : Nat} {x : Int32} (hlink : Cond.methodLink own idx Lib.Math.abs.name ∈ tblG) (hst : Cond.static Lib.Math.abs.name ∈ tblG) (hini : Cond.initialized "java/lang/Math" ∈ tblG) (hcode : Cond.code Lib.Math.abs.name Lib.Math.abs.code 1 (some .int) ∈ tblG) (hfr : 1 ≤ R.frames) (hlo : (stk.map fun v => v.category).sum + 13 ≤ R.locals) (hk : k ≤ R.cells) (hn : n ≤ R.slots) (hdg : decode cc pc = .ok (.invokestatic idx, 3)) (h : V κ l D cA R cc nL own ret k n (pc + 3) lv (.int (if 0 ≤ x then x else 0 - x) :: stk) ws) : V κ l D cA R cc nL own ret k n pc lv (.int x :: stk) ws := by
  obtain ⟨p, e, s, m, ar, below, meth, c, A, Q⟩ := κ
  intro K H locs ls hl hP hD hS
  exact va_mabs K.1 K.2.1 (K.2.2.1.trans hl.1.symm) K.2.2.2.1 (K.2.2.2.2.1 _ hlink) (K.2.2.2.2.1 _ hst) (K.2.2.2.2.1 _ hini) (K.2.2.2.2.1 _ hcode) hfr hlo hk hn hdg (h K H locs ls hl hP hD hS)
theorem z_stk {stk' : List Value} (hs : stk = stk') (h : V κ l D cA R cc nL own ret k n pc lv stk' ws) : V κ l D cA R cc nL own ret k n pc lv stk ws := by
  subst hs; exact h
theorem y_lookup {dflt : Int} {ps : Array (Int × Int)} {len : Nat} {x : Int32} {off : Int} {tgt : Nat} (hdg : decode cc pc = .ok (.lookupswitch dflt ps, len)) (hp : (ps.toList.zip (ps.toList.drop 1)).all (fun (a, next) => a.1 < next.1) = true) (ho : Op.lookupswitch.offset ps.toList dflt x.toInt = off) (ht : (pc : Int) + off = (tgt : Int)) (h : V κ l D cA R cc nL own ret k n tgt lv stk ws) : V κ l D cA R cc nL own ret k n pc lv (.int x :: stk) ws := by
  obtain ⟨p, e, s, m, ar, below, meth, c, A, Q⟩ := κ
  intro K H locs ls hl hP hD hS
  exact lv_lookup K.1 K.2.1 hdg hp ho ht (h K H locs ls hl hP hD hS)
theorem y_tabOut {dflt lo hi : Int} {offs : Array Int} {len : Nat} {x : Int32} {tgt : Nat} (hdg : decode cc pc = .ok (.tableswitch dflt lo hi offs, len)) (hx : x.toInt < lo ∨ hi < x.toInt) (ht : (pc : Int) + dflt = (tgt : Int)) (h : V κ l D cA R cc nL own ret k n tgt lv stk ws) : V κ l D cA R cc nL own ret k n pc lv (.int x :: stk) ws := by
  obtain ⟨p, e, s, m, ar, below, meth, c, A, Q⟩ := κ
  intro K H locs ls hl hP hD hS
  exact lv_tableOut K.1 K.2.1 hdg hx ht (h K H locs ls hl hP hD hS)
theorem y_tabIn {dflt lo hi : Int} {offs : Array Int} {len : Nat} {x : Int32} {off : Int} {tgt : Nat} (hdg : decode cc pc = .ok (.tableswitch dflt lo hi offs, len)) (h1 : ¬ x.toInt < lo) (h2 : ¬ hi < x.toInt) (ho : offs[(x.toInt - lo).toNat]? = some off) (ht : (pc : Int) + off = (tgt : Int)) (h : V κ l D cA R cc nL own ret k n tgt lv stk ws) : V κ l D cA R cc nL own ret k n pc lv (.int x :: stk) ws := by
  obtain ⟨p, e, s, m, ar, below, meth, c, A, Q⟩ := κ
  intro K H locs ls hl hP hD hS
  exact lv_tableIn K.1 K.2.1 hdg h1 h2 ho ht (h K H locs ls hl hP hD hS)
end VRows
/-! contracts: the world before, the arguments, the answer, the world behind; and how a call uses one -/
def EnI (κ : Ctx) (D : va_G) (cA : Nat → ClassId) (r : Int32) (ws1 : va_W) : Prop :=
  match κ with
  | (_, _, s, _, ar, below, _, _, A, Q) => Q = MQ below (va_Qi (fun (x : Int32) (_ : Unit) => x = r) (fun _ t => va_P D vwCl ws1 t.heap ∧ va_K D vwCl (tys cA) t ∧ va_D A ws1) A) ar s 0 0 A
def EnV (κ : Ctx) (D : va_G) (cA : Nat → ClassId) (ws1 : va_W) : Prop :=
  match κ with
  | (_, _, s, _, ar, below, _, _, A, Q) => Q = MQ below (va_Qv (fun (_ : Unit) => True) (fun _ t => va_P D vwCl ws1 t.heap ∧ va_K D vwCl (tys cA) t ∧ va_D A ws1) A) ar s 0 0 A
def CtI (l : Launch) (y : MethodName) (w : List Cond) (rm : Room) (D : va_G) (cA : Nat → ClassId) (ws0 : va_W) (as : List Value) (r : Int32) (ws1 : va_W) : Prop :=
  ∀ sz : Nat, Met l y w rm (va_Pc as (fun U => U.heap.size = sz ∧ va_P D vwCl ws0 U.heap ∧ va_K D vwCl (tys cA) U ∧ va_D (fun _ => True) ws0)) (va_Qi (fun (x : Int32) (_ : Unit) => x = r) (fun _ t => va_P D vwCl ws1 t.heap ∧ va_K D vwCl (tys cA) t ∧ va_D (va_A ws0 sz) ws1) (va_A ws0 sz)) 0 0 (va_A ws0 sz)
def CtV (l : Launch) (y : MethodName) (w : List Cond) (rm : Room) (D : va_G) (cA : Nat → ClassId) (ws0 : va_W) (as : List Value) (ws1 : va_W) : Prop :=
  ∀ sz : Nat, Met l y w rm (va_Pc as (fun U => U.heap.size = sz ∧ va_P D vwCl ws0 U.heap ∧ va_K D vwCl (tys cA) U ∧ va_D (fun _ => True) ws0)) (va_Qv (fun (_ : Unit) => True) (fun _ t => va_P D vwCl ws1 t.heap ∧ va_K D vwCl (tys cA) t ∧ va_D (va_A ws0 sz) ws1) (va_A ws0 sz)) 0 0 (va_A ws0 sz)
theorem CtI.start {l : Launch} {y : MethodName} {rm : Room} {D : va_G} {cA : Nat → ClassId} {ws0 ws1 : va_W} {as : List Value} {r : Int32} {cc : ByteArray} {maxL : Nat} {ty : FieldType} {lv : List (Nat × Value)}
    (hy : plainName y.cls = true) (hlen : (lg_sl as).length ≤ maxL) (hlv : lv_args 0 as = lv)
    (body : ∀ κ : Ctx, EnI κ D cA r ws1 → V κ l D cA rm cc maxL y.cls (some ty) 0 0 0 lv [] ws0) : CtI l y (Cond.code y cc maxL (some ty) :: tblG) rm D cA ws0 as r ws1 := by
  intro sz
  refine Met.ofW (cc := cc) (maxL := maxL) (ret := some ty) hy rfl ?_
  intro p e s m args below meth c s₁ B hml hv
  obtain ⟨rfl, hsz, hP, hK, hD0⟩ := hv
  subst hsz
  have hl := lv_entry as (n := maxL) hlen
  rw [hlv] at hl
  rw [lg_entry_eq]
  have hts := atoms_spec (ws := Cond.code y cc maxL (some ty) :: tblG) B.pre
  exact body (p, e, s, m, as.toArray, below, meth, c, va_A ws0 s.heap.size, _) rfl ⟨B.exec, B.bytes, hml, findClass_of_methodNamed B.named, fun w hw => hts w (List.mem_cons_of_mem _ hw), B.returns, B.notSynchronized, hK, fun q h => Or.inr h⟩ s.heap [] _ hl hP hD0.self va_S.rf
theorem CtV.start {l : Launch} {y : MethodName} {rm : Room} {D : va_G} {cA : Nat → ClassId} {ws0 ws1 : va_W} {as : List Value} {cc : ByteArray} {maxL : Nat} {lv : List (Nat × Value)}
    (hy : plainName y.cls = true) (hlen : (lg_sl as).length ≤ maxL) (hlv : lv_args 0 as = lv)
    (body : ∀ κ : Ctx, EnV κ D cA ws1 → V κ l D cA rm cc maxL y.cls none 0 0 0 lv [] ws0) : CtV l y (Cond.code y cc maxL none :: tblG) rm D cA ws0 as ws1 := by
  intro sz
  refine Met.ofW (cc := cc) (maxL := maxL) (ret := none) hy rfl ?_
  intro p e s m args below meth c s₁ B hml hv
  obtain ⟨rfl, hsz, hP, hK, hD0⟩ := hv
  subst hsz
  have hl := lv_entry as (n := maxL) hlen
  rw [hlv] at hl
  rw [lg_entry_eq]
  have hts := atoms_spec (ws := Cond.code y cc maxL none :: tblG) B.pre
  exact body (p, e, s, m, as.toArray, below, meth, c, va_A ws0 s.heap.size, _) rfl ⟨B.exec, B.bytes, hml, findClass_of_methodNamed B.named, fun w hw => hts w (List.mem_cons_of_mem _ hw), B.returns, B.notSynchronized, hK, fun q h => Or.inr h⟩ s.heap [] _ hl hP hD0.self va_S.rf
/-! the callee's cells put back into the caller's world -/
def putc (ws : va_W) : List Nat → va_W → va_W
  | i :: is, c :: cs => putc (ws.set i c) is cs
  | _, _ => ws
theorem putc_not : ∀ (is : List Nat) (cs ws : va_W) (i : Nat), i ∉ is → (putc ws is cs)[i]? = ws[i]?
  | [], cs, ws, i, _ => by cases cs <;> rfl
  | j :: is, [], ws, i, _ => rfl
  | j :: is, c :: cs, ws, i, h => by
    show (putc (ws.set j c) is cs)[i]? = _
    rw [putc_not is cs (ws.set j c) i (fun q => h (List.mem_cons_of_mem _ q))]
    exact List.getElem?_set_ne (fun (q : j = i) => h (by rw [← q]; exact List.mem_cons_self))
theorem putc_in : ∀ (is : List Nat) (cs ws : va_W) (j i : Nat), va_nd is = true → is.length ≤ cs.length → (∀ a ∈ is, a < ws.length) → is[j]? = some i → (putc ws is cs)[i]? = cs[j]?
  | [], _, _, j, i, _, _, _, h => by cases j <;> cases h
  | a :: is, [], ws, j, i, _, hl, _, _ => absurd hl (Nat.not_succ_le_zero _)
  | a :: is, c :: cs, ws, j, i, hn, hl, hb, h => by
    have hn' : a ∉ is ∧ va_nd is = true := by simpa [va_nd] using hn
    cases j with
    | zero =>
      cases h
      show (putc (ws.set a c) is cs)[a]? = some c
      rw [putc_not is cs _ a hn'.1]
      exact List.getElem?_set_self (hb a List.mem_cons_self)
    | succ j =>
      show (putc (ws.set a c) is cs)[i]? = cs[j]?
      exact putc_in is cs (ws.set a c) j i hn'.2 (Nat.le_of_succ_le_succ hl) (fun x hx => by rw [List.length_set]; exact hb x (List.mem_cons_of_mem _ hx)) h
theorem put_join {A0 : Nat → Prop} {D : va_G} {cl : List vw_C} {ws wc w1 : va_W} {H H1 : Heap} (hP : va_P D cl ws H) (hD : va_D A0 ws) (is : List Nat) (hC : is.map (fun i => ws[i]?) = wc.map some) (hn : va_nd is = true) (hlen : wc.length = w1.length)
    (hk : ∀ q : Nat, q < H.size → ¬ va_A wc H.size q → H1[q]? = H[q]?) (hF : ∀ q, va_A wc H.size q → A0 q) (hP1 : va_P D cl w1 H1) (hD1 : va_D (va_A wc H.size) w1) : va_P D cl (putc ws is w1) H1 ∧ va_D A0 (putc ws is w1) := by
  have hl1 : is.length = wc.length := by simpa using congrArg List.length hC
  have hl : is.length = w1.length := hl1.trans hlen
  have at' : ∀ (k : Nat) (q : Nat × va_E), wc[k]? = some q → ∃ i, is[k]? = some i ∧ ws[i]? = some q := by
    intro k q hq
    have h1 : (is.map (fun i => ws[i]?))[k]? = some (some q) := by rw [hC, List.getElem?_map, hq]; rfl
    rw [List.getElem?_map] at h1
    cases hi : is[k]? with
    | none => rw [hi] at h1; cases h1
    | some i => rw [hi] at h1; exact ⟨i, rfl, Option.some.inj h1⟩
  have hb : ∀ a ∈ is, a < ws.length := by
    intro a ha
    obtain ⟨k, hk'⟩ := List.getElem?_of_mem ha
    have hkl : k < wc.length := by rw [← hl1]; exact (List.getElem?_eq_some_iff.mp hk').1
    obtain ⟨i, h1, h2⟩ := at' k wc[k] (List.getElem?_eq_getElem hkl)
    rw [hk'] at h1; cases h1
    exact (List.getElem?_eq_some_iff.mp h2).1
  have key : ∀ (i : Nat) (q : Nat × va_E), (putc ws is w1)[i]? = some q → (∃ j : Nat, is[j]? = some i ∧ w1[j]? = some q) ∨ (i ∉ is ∧ ws[i]? = some q) := by
    intro i q hq
    by_cases hi : i ∈ is
    · obtain ⟨j, hj⟩ := List.getElem?_of_mem hi
      rw [putc_in is w1 ws j i hn (Nat.le_of_eq hl) hb hj] at hq
      exact Or.inl ⟨j, hj, hq⟩
    · rw [putc_not is w1 ws i hi] at hq
      exact Or.inr ⟨hi, hq⟩
  have apart : ∀ (i : Nat) (q : Nat × va_E), i ∉ is → ws[i]? = some q → q.1 < H.size ∧ ¬ va_A wc H.size q.1 := by
    intro i q hi hq
    have hl' := (hP i q hq).lt
    refine ⟨hl', fun h => ?_⟩
    rcases h with ⟨k2, e, h⟩ | h
    · obtain ⟨j, h3, h4⟩ := at' k2 (q.1, e) h
      have hij := hD.1 i j q (q.1, e) hq h4 rfl
      subst hij
      exact hi (List.mem_of_getElem? h3)
    · omega
  refine ⟨fun i q hq => ?_, fun i j p q hp hq hpq => ?_, fun i q hq => ?_⟩
  · rcases key i q hq with ⟨j, -, h2⟩ | ⟨h1, h2⟩
    · exact hP1 j q h2
    · obtain ⟨g1, g2⟩ := apart i q h1 h2
      exact (hP i q h2).kept (hk q.1 g1 g2)
  · rcases key i p hp with ⟨a, h1, h2⟩ | ⟨h1, h2⟩ <;> rcases key j q hq with ⟨b, h3, h4⟩ | ⟨h3, h4⟩
    · have := hD1.1 a b p q h2 h4 hpq
      subst this
      exact Option.some.inj (h1.symm.trans h3)
    · exact absurd (by rw [← hpq]; exact hD1.2 a p h2) (apart j q h3 h4).2
    · exact absurd (by rw [hpq]; exact hD1.2 b q h4) (apart i p h1 h2).2
    · exact hD.1 i j p q h2 h4 hpq
  · rcases key i q hq with ⟨j, -, h2⟩ | ⟨h1, h2⟩
    · exact hF q.1 (hD1.2 j q h2)
    · exact hD.2 i q h2
theorem sub_map {ws ws' : va_W} (is : List Nat) (hs : is.map (fun i => ws[i]?) = ws'.map some) : is.filterMap (fun i => ws[i]?) = ws' := by
  have h1 : is.filterMap (fun i => ws[i]?) = (is.map (fun i => ws[i]?)).filterMap id := by rw [List.filterMap_map]; rfl
  rw [h1, hs, List.filterMap_map]
  simp
/-- what a call of an own method needs of the tables -/
def InV (own : String) (idx : Nat) (y : MethodName) (bytes : ByteArray) (mL : Nat) (rt : Option FieldType) (na : Nat) : Prop :=
  Cond.methodLink own idx y ∈ tblG ∧ Cond.instanceMethod y ∈ tblG ∧ Cond.selects y.cls y y ∈ tblG ∧ Cond.initialized y.cls ∈ tblG ∧ Cond.code y bytes mL rt ∈ tblG ∧ (y.cls ≠ "java/lang/invoke/MethodHandle" ∧ y.cls ≠ "java/lang/invoke/VarHandle" ∧ (parseMethodDescriptor y.desc).map (fun d => d.parameters.length) = some na)
def InS (own : String) (idx : Nat) (y : MethodName) (bytes : ByteArray) (mL : Nat) (rt : Option FieldType) (na : Nat) : Prop :=
  Cond.methodLink own idx y ∈ tblG ∧ Cond.static y ∈ tblG ∧ Cond.initialized y.cls ∈ tblG ∧ Cond.code y bytes mL rt ∈ tblG ∧ (y.cls ≠ "java/lang/invoke/MethodHandle" ∧ y.cls ≠ "java/lang/invoke/VarHandle" ∧ (parseMethodDescriptor y.desc).map (fun d => d.parameters.length) = some na)
theorem good_cons {b : Cond} (hb : b ∈ tblG) : GoodIn tblG (b :: tblG) := by
  intro w hw
  rcases List.mem_cons.mp hw with rfl | h
  · exact ⟨hb, tblG_good _ hb⟩
  · exact ⟨h, tblG_good _ h⟩
section VCalls
variable {κ : Ctx} {l : Launch} {D : va_G} {cA : Nat → ClassId} {R : Room} {cc : ByteArray} {nL : Nat} {own : String} {ret : Option FieldType} {k n : Nat} {pc : Nat} {lv : List (Nat × Value)} {stk rest : List Value} {ws : va_W}
theorem z_iret {v : Int32} (hE : EnI κ D cA v ws) (hdg : decode cc pc = .ok (.ireturn, 1)) : V κ l D cA R cc nL own (some .int) 0 0 pc lv [.int v] ws := by
  obtain ⟨p, e, s, m, ar, below, meth, c, A, Q⟩ := κ
  intro K H locs ls hl hP hD hS
  have hE : Q = _ := hE
  subst hE
  exact W.iret (v := v) K.1 K.2.1 K.2.2.2.2.2.1 (fun t ht hW => ⟨⟨v, (), rfl, rfl, by rw [ht]; exact hP, va_K.moved hW.alike K.2.2.2.2.2.2.2.1, hD⟩, hS.F ht⟩) hS.2.2 hdg K.2.2.2.2.2.2.1
theorem z_zret {α : Type} {v : Int32} {a : Option α} {r : α} (hdg : decode cc pc = .ok (.ireturn, 1)) (hf : (if v = 0 ∨ v = 1 then a else none) = some r) (hE : a = some r → EnI κ D cA v ws) : V κ l D cA R cc nL own (some .boolean) 0 0 pc lv [.int v] ws := by
  by_cases hz : v = 0 ∨ v = 1
  · rw [if_pos hz] at hf
    have hE := hE hf
    obtain ⟨p, e, s, m, ar, below, meth, c, A, Q⟩ := κ
    intro K H locs ls hl hP hD hS
    have hE : Q = _ := hE
    subst hE
    exact W.zret (v := v) K.1 K.2.1 K.2.2.2.2.2.1 (by rcases hz with rfl | rfl <;> rfl) (fun t ht hW => ⟨⟨v, (), rfl, rfl, by rw [ht]; exact hP, va_K.moved hW.alike K.2.2.2.2.2.2.2.1, hD⟩, hS.F ht⟩) hS.2.2 hdg K.2.2.2.2.2.2.1
  · rw [if_neg hz] at hf; cases hf
theorem z_zretL {v : Int32} (hz : v = 0 ∨ v = 1) (hE : EnI κ D cA v ws) (hdg : decode cc pc = .ok (.ireturn, 1)) : V κ l D cA R cc nL own (some .boolean) 0 0 pc lv [.int v] ws :=
  z_zret (α := Unit) (a := some ()) (r := ()) hdg (if_pos hz) (fun _ => hE)
theorem z_vret (hE : EnV κ D cA ws) (hdg : decode cc pc = .ok (.return_, 1)) : V κ l D cA R cc nL own none 0 0 pc lv [] ws := by
  obtain ⟨p, e, s, m, ar, below, meth, c, A, Q⟩ := κ
  intro K H locs ls hl hP hD hS
  have hE : Q = _ := hE
  subst hE
  exact W.vret K.1 K.2.1 K.2.2.2.2.2.1 (fun t ht hW => ⟨⟨(), rfl, trivial, by rw [ht]; exact hP, va_K.moved hW.alike K.2.2.2.2.2.2.2.1, hD⟩, hS.F ht⟩) hS.2.2 hdg K.2.2.2.2.2.2.1
variable {y : MethodName} {bytes : ByteArray} {mL na idx : Nat} {rt : Option FieldType} {rm : Room} {ws0 ws1 ws' : va_W} {As : List Value} {b : Nat} {r : Int32}
theorem z_calliV (hM : CtI l y (Cond.code y bytes mL rt :: tblG) rm D cA ws0 (.ref b :: As) r ws1) (hI : InV own idx y bytes mL rt na) (hrc : rm.cells = 0 ∧ rm.slots = 0) (hR : rm.frames + 1 ≤ R.frames ∧ 8 + (mL + 11) + rm.locals ≤ R.locals) (hna : As.length = na) (hkn : k ≤ R.cells ∧ n ≤ R.slots)
    {ci N : Nat} {T : u_T} {fs : List Value} (hrv : ws0[0]? = some (b, .inr (ci, fs))) (hci : vwCl[ci]? = some (y.cls, T, N)) (isC : List Nat) (hC : isC.map (fun i => ws[i]?) = ws0.map some) (hnd : va_nd isC = true) (hle : ws0.length = ws1.length) (hw : putc ws isC ws1 = ws') (hstk : stk = As.reverse ++ .ref b :: rest) (hrm : (rest.map fun v => v.category).sum ≤ 8) (hdg : decode cc pc = .ok (.invokevirtual idx, 3))
    (h : V κ l D cA R cc nL own ret k n (pc + 3) lv (.int r :: rest) ws') : V κ l D cA R cc nL own ret k n pc lv stk ws := by
  obtain ⟨p, e, s, m, ar, below, meth, c, A, Q⟩ := κ
  intro K H locs ls hl hP hD hS
  obtain ⟨hx, hb, hml, hown, htg, hr, hlocks, hK, hA⟩ := id K
  subst hw; subst hstk
  have hPc := hP.sub (ws' := ws0) isC (sub_map isC hC)
  have hDc := hD.sub (ws' := ws0) isC hnd hC
  have hFc := va_free (wc := ws0) hD hS hA isC hC
  refine va_calli (va_runV (As := As) (rest := rest) ⟨hx, hb, hml, hown, htg⟩ (hM H.size) ⟨callB_of na htg (good_cons hI.2.2.2.2.1) rfl hrc.1 hrc.2 (htg _ hI.2.2.2.1) (htg _ hI.1) hI.2.2.2.2.2 hR, htg _ hI.2.1, htg _ hI.2.2.1⟩ ⟨fun a U g mk q => by obtain ⟨q0, q1, qP, qK, qD⟩ := q; exact ⟨q0, q1, qP, va_K.moved (u := U) (U := U.calling g mk a) (Vm.Alike.refl U.vm) qK, qD⟩, va_recv hK hPc hci hrv, fun U hU hW => ⟨rfl, by rw [hU], by rw [hU]; exact hPc, va_K.moved hW.alike hK, hDc.weaken (fun _ _ _ _ => trivial)⟩⟩ rfl hna hl.1 rfl (lv_room hrm) hdg ⟨by simpa using hkn.1, by simpa using hkn.2⟩) hS (fun q _ h => hFc q h) hFc (fun r1 u t H1 locs ht hvm hw hB hz1 hk1 hS => ?_)
  obtain ⟨hP1, hK1, hD1⟩ := hB
  rw [ht] at hP1
  obtain ⟨hP, hD⟩ := put_join hP hD isC hC hnd hle hk1 hFc hP1 hD1
  subst hw
  exact h K H1 locs ls hl hP hD hS
theorem z_callvV (hM : CtV l y (Cond.code y bytes mL none :: tblG) rm D cA ws0 (.ref b :: As) ws1) (hI : InV own idx y bytes mL none na) (hrc : rm.cells = 0 ∧ rm.slots = 0) (hR : rm.frames + 1 ≤ R.frames ∧ 8 + (mL + 11) + rm.locals ≤ R.locals) (hna : As.length = na) (hkn : k ≤ R.cells ∧ n ≤ R.slots)
    {ci N : Nat} {T : u_T} {fs : List Value} (hrv : ws0[0]? = some (b, .inr (ci, fs))) (hci : vwCl[ci]? = some (y.cls, T, N)) (isC : List Nat) (hC : isC.map (fun i => ws[i]?) = ws0.map some) (hnd : va_nd isC = true) (hle : ws0.length = ws1.length) (hw : putc ws isC ws1 = ws') (hstk : stk = As.reverse ++ .ref b :: rest) (hrm : (rest.map fun v => v.category).sum ≤ 8) (hdg : decode cc pc = .ok (.invokevirtual idx, 3))
    (h : V κ l D cA R cc nL own ret k n (pc + 3) lv rest ws') : V κ l D cA R cc nL own ret k n pc lv stk ws := by
  obtain ⟨p, e, s, m, ar, below, meth, c, A, Q⟩ := κ
  intro K H locs ls hl hP hD hS
  obtain ⟨hx, hb, hml, hown, htg, hr, hlocks, hK, hA⟩ := id K
  subst hw; subst hstk
  have hPc := hP.sub (ws' := ws0) isC (sub_map isC hC)
  have hDc := hD.sub (ws' := ws0) isC hnd hC
  have hFc := va_free (wc := ws0) hD hS hA isC hC
  refine va_callv (va_runV (As := As) (rest := rest) ⟨hx, hb, hml, hown, htg⟩ (hM H.size) ⟨callB_of na htg (good_cons hI.2.2.2.2.1) rfl hrc.1 hrc.2 (htg _ hI.2.2.2.1) (htg _ hI.1) hI.2.2.2.2.2 hR, htg _ hI.2.1, htg _ hI.2.2.1⟩ ⟨fun a U g mk q => by obtain ⟨q0, q1, qP, qK, qD⟩ := q; exact ⟨q0, q1, qP, va_K.moved (u := U) (U := U.calling g mk a) (Vm.Alike.refl U.vm) qK, qD⟩, va_recv hK hPc hci hrv, fun U hU hW => ⟨rfl, by rw [hU], by rw [hU]; exact hPc, va_K.moved hW.alike hK, hDc.weaken (fun _ _ _ _ => trivial)⟩⟩ rfl hna hl.1 rfl (lv_room hrm) hdg ⟨by simpa using hkn.1, by simpa using hkn.2⟩) hS (fun q _ h => hFc q h) hFc (fun u t H1 locs ht hvm hw hB hz1 hk1 hS => ?_)
  obtain ⟨hP1, hK1, hD1⟩ := hB
  rw [ht] at hP1
  obtain ⟨hP, hD⟩ := put_join hP hD isC hC hnd hle hk1 hFc hP1 hD1
  exact h K H1 locs ls hl hP hD hS
theorem z_calliS (hM : CtI l y (Cond.code y bytes mL rt :: tblG) rm D cA ws0 As r ws1) (hI : InS own idx y bytes mL rt na) (hrc : rm.cells = 0 ∧ rm.slots = 0) (hR : rm.frames + 1 ≤ R.frames ∧ 8 + (mL + 11) + rm.locals ≤ R.locals) (hna : As.length = na) (hkn : k ≤ R.cells ∧ n ≤ R.slots)
    (isC : List Nat) (hC : isC.map (fun i => ws[i]?) = ws0.map some) (hnd : va_nd isC = true) (hle : ws0.length = ws1.length) (hw : putc ws isC ws1 = ws') (hstk : stk = As.reverse ++ rest) (hrm : (rest.map fun v => v.category).sum ≤ 8) (hdg : decode cc pc = .ok (.invokestatic idx, 3))
    (h : V κ l D cA R cc nL own ret k n (pc + 3) lv (.int r :: rest) ws') : V κ l D cA R cc nL own ret k n pc lv stk ws := by
  obtain ⟨p, e, s, m, ar, below, meth, c, A, Q⟩ := κ
  intro K H locs ls hl hP hD hS
  obtain ⟨hx, hb, hml, hown, htg, hr, hlocks, hK, hA⟩ := id K
  subst hw; subst hstk
  have hPc := hP.sub (ws' := ws0) isC (sub_map isC hC)
  have hDc := hD.sub (ws' := ws0) isC hnd hC
  have hFc := va_free (wc := ws0) hD hS hA isC hC
  refine va_calli (va_runS (As := As) (rest := rest) ⟨hx, hb, hml, hown, htg⟩ (hM H.size) ⟨callB_of na htg (good_cons hI.2.2.2.1) rfl hrc.1 hrc.2 (htg _ hI.2.2.1) (htg _ hI.1) hI.2.2.2.2 hR, htg _ hI.2.1⟩ ⟨fun a U g mk q => by obtain ⟨q0, q1, qP, qK, qD⟩ := q; exact ⟨q0, q1, qP, va_K.moved (u := U) (U := U.calling g mk a) (Vm.Alike.refl U.vm) qK, qD⟩, fun U hU hW => ⟨rfl, by rw [hU], by rw [hU]; exact hPc, va_K.moved hW.alike hK, hDc.weaken (fun _ _ _ _ => trivial)⟩⟩ rfl hna hl.1 rfl (lv_room hrm) hdg ⟨by simpa using hkn.1, by simpa using hkn.2⟩) hS (fun q _ h => hFc q h) hFc (fun r1 u t H1 locs ht hvm hw hB hz1 hk1 hS => ?_)
  obtain ⟨hP1, hK1, hD1⟩ := hB
  rw [ht] at hP1
  obtain ⟨hP, hD⟩ := put_join hP hD isC hC hnd hle hk1 hFc hP1 hD1
  subst hw
  exact h K H1 locs ls hl hP hD hS
end VCalls
end
section
theorem flX0_9 : Cond.fieldLink RX0 9 "RouterPaths$Grid" "side" "I" ∈ tblG := List.mem_filter.mpr ⟨List.mem_of_getElem? (i := 71) (by decide +kernel), rfl⟩
theorem flX0_22 : Cond.fieldLink RX0 22 "RouterPaths$Grid" "targets" "[I" ∈ tblG := List.mem_filter.mpr ⟨List.mem_of_getElem? (i := 76) (by decide +kernel), rfl⟩
theorem mlX0_38 : Cond.methodLink RX0 38 yX0_placeOf ∈ tblG := List.mem_filter.mpr ⟨List.mem_of_getElem? (i := 462) (by decide +kernel), rfl⟩
theorem imX0_placeOf : Cond.instanceMethod yX0_placeOf ∈ tblG := List.mem_filter.mpr ⟨List.mem_of_getElem? (i := 337) (by decide +kernel), rfl⟩
theorem seX0_placeOf : Cond.selects RX0 yX0_placeOf yX0_placeOf ∈ tblG := List.mem_filter.mpr ⟨List.mem_of_getElem? (i := 338) (by decide +kernel), rfl⟩
theorem iniX0 : Cond.initialized RX0 ∈ tblG := List.mem_filter.mpr ⟨List.mem_of_getElem? (i := 38) (by decide +kernel), rfl⟩
set_option maxRecDepth 100000 in
theorem cdX0_placeOf : Cond.code yX0_placeOf cX0_placeOf 3 (some .int) ∈ tblG := List.mem_filter.mpr ⟨List.mem_of_getElem? (i := 339) (rfl), rfl⟩
theorem ivX0_38 : InV RX0 38 yX0_placeOf cX0_placeOf 3 (some .int) 2 := ⟨mlX0_38, imX0_placeOf, seX0_placeOf, iniX0, cdX0_placeOf, by decide +kernel⟩
theorem flX0_25 : Cond.fieldLink RX0 25 "RouterPaths$Grid" "kept" "[Z" ∈ tblG := List.mem_filter.mpr ⟨List.mem_of_getElem? (i := 78) (by decide +kernel), rfl⟩
theorem flX0_15 : Cond.fieldLink RX0 15 "RouterPaths$Grid" "cells" "I" ∈ tblG := List.mem_filter.mpr ⟨List.mem_of_getElem? (i := 72) (by decide +kernel), rfl⟩
theorem flX0_18 : Cond.fieldLink RX0 18 "RouterPaths$Grid" "heights" "[I" ∈ tblG := List.mem_filter.mpr ⟨List.mem_of_getElem? (i := 73) (by decide +kernel), rfl⟩
theorem mlX0_42 : Cond.methodLink RX0 42 yX0_isOff ∈ tblG := List.mem_filter.mpr ⟨List.mem_of_getElem? (i := 601) (by decide +kernel), rfl⟩
theorem imX0_isOff : Cond.instanceMethod yX0_isOff ∈ tblG := List.mem_filter.mpr ⟨List.mem_of_getElem? (i := 603) (by decide +kernel), rfl⟩
theorem seX0_isOff : Cond.selects RX0 yX0_isOff yX0_isOff ∈ tblG := List.mem_filter.mpr ⟨List.mem_of_getElem? (i := 18) (by decide +kernel), rfl⟩
set_option maxRecDepth 100000 in
theorem cdX0_isOff : Cond.code yX0_isOff cX0_isOff 3 (some .boolean) ∈ tblG := List.mem_filter.mpr ⟨List.mem_of_getElem? (i := 604) (rfl), rfl⟩
theorem ivX0_42 : InV RX0 42 yX0_isOff cX0_isOff 3 (some .boolean) 2 := ⟨mlX0_42, imX0_isOff, seX0_isOff, iniX0, cdX0_isOff, by decide +kernel⟩
theorem flX0_35 : Cond.fieldLink RX0 35 "RouterPaths$Grid" "discSize" "I" ∈ tblG := List.mem_filter.mpr ⟨List.mem_of_getElem? (i := 82) (by decide +kernel), rfl⟩
theorem flX0_46 : Cond.fieldLink RX0 46 "RouterPaths$Tool" "radius" "I" ∈ tblG := List.mem_filter.mpr ⟨List.mem_of_getElem? (i := 110) (by decide +kernel), rfl⟩
theorem mlX0_51 : Cond.methodLink RX0 51 Lib.Math.min.name ∈ tblG := List.mem_filter.mpr ⟨List.mem_of_getElem? (i := 547) (by decide +kernel), rfl⟩
theorem mst_min : Cond.static Lib.Math.min.name ∈ tblG := List.mem_filter.mpr ⟨List.mem_of_getElem? (i := 60) (by decide +kernel), rfl⟩
theorem mini : Cond.initialized "java/lang/Math" ∈ tblG := List.mem_filter.mpr ⟨List.mem_of_getElem? (i := 37) (by decide +kernel), rfl⟩
set_option maxRecDepth 100000 in
theorem mcd_min : Cond.code Lib.Math.min.name Lib.Math.min.code 2 (some .int) ∈ tblG := List.mem_filter.mpr ⟨List.mem_of_getElem? (i := 61) (rfl), rfl⟩
theorem mlX0_56 : Cond.methodLink RX0 56 Lib.Math.max.name ∈ tblG := List.mem_filter.mpr ⟨List.mem_of_getElem? (i := 548) (by decide +kernel), rfl⟩
theorem mst_max : Cond.static Lib.Math.max.name ∈ tblG := List.mem_filter.mpr ⟨List.mem_of_getElem? (i := 63) (by decide +kernel), rfl⟩
set_option maxRecDepth 100000 in
theorem mcd_max : Cond.code Lib.Math.max.name Lib.Math.max.code 2 (some .int) ∈ tblG := List.mem_filter.mpr ⟨List.mem_of_getElem? (i := 64) (rfl), rfl⟩
theorem flX0_59 : Cond.fieldLink RX0 59 "RouterPaths$Tool" "halfWidths" "[I" ∈ tblG := List.mem_filter.mpr ⟨List.mem_of_getElem? (i := 114) (by decide +kernel), rfl⟩
theorem mlX0_62 : Cond.methodLink RX0 62 Lib.Math.abs.name ∈ tblG := List.mem_filter.mpr ⟨List.mem_of_getElem? (i := 549) (by decide +kernel), rfl⟩
theorem mst_abs : Cond.static Lib.Math.abs.name ∈ tblG := List.mem_filter.mpr ⟨List.mem_of_getElem? (i := 534) (by decide +kernel), rfl⟩
set_option maxRecDepth 100000 in
theorem mcd_abs : Cond.code Lib.Math.abs.name Lib.Math.abs.code 1 (some .int) ∈ tblG := List.mem_filter.mpr ⟨List.mem_of_getElem? (i := 535) (rfl), rfl⟩
theorem flX0_32 : Cond.fieldLink RX0 32 "RouterPaths$Grid" "disc" "[I" ∈ tblG := List.mem_filter.mpr ⟨List.mem_of_getElem? (i := 81) (by decide +kernel), rfl⟩
theorem flX0_29 : Cond.fieldLink RX0 29 "RouterPaths$Grid" "marks" "[Z" ∈ tblG := List.mem_filter.mpr ⟨List.mem_of_getElem? (i := 80) (by decide +kernel), rfl⟩
theorem mlX0_66 : Cond.methodLink RX0 66 yX0_layDisc ∈ tblG := List.mem_filter.mpr ⟨List.mem_of_getElem? (i := 620) (by decide +kernel), rfl⟩
theorem imX0_layDisc : Cond.instanceMethod yX0_layDisc ∈ tblG := List.mem_filter.mpr ⟨List.mem_of_getElem? (i := 544) (by decide +kernel), rfl⟩
theorem seX0_layDisc : Cond.selects RX0 yX0_layDisc yX0_layDisc ∈ tblG := List.mem_filter.mpr ⟨List.mem_of_getElem? (i := 545) (by decide +kernel), rfl⟩
set_option maxRecDepth 100000 in
theorem cdX0_layDisc : Cond.code yX0_layDisc cX0_layDisc 9 none ∈ tblG := List.mem_filter.mpr ⟨List.mem_of_getElem? (i := 546) (rfl), rfl⟩
theorem ivX0_66 : InV RX0 66 yX0_layDisc cX0_layDisc 9 none 3 := ⟨mlX0_66, imX0_layDisc, seX0_layDisc, iniX0, cdX0_layDisc, by decide +kernel⟩
theorem mlX0_70 : Cond.methodLink RX0 70 yX0_discHasKept ∈ tblG := List.mem_filter.mpr ⟨List.mem_of_getElem? (i := 621) (by decide +kernel), rfl⟩
theorem imX0_discHasKept : Cond.instanceMethod yX0_discHasKept ∈ tblG := List.mem_filter.mpr ⟨List.mem_of_getElem? (i := 623) (by decide +kernel), rfl⟩
theorem seX0_discHasKept : Cond.selects RX0 yX0_discHasKept yX0_discHasKept ∈ tblG := List.mem_filter.mpr ⟨List.mem_of_getElem? (i := 19) (by decide +kernel), rfl⟩
set_option maxRecDepth 100000 in
theorem cdX0_discHasKept : Cond.code yX0_discHasKept cX0_discHasKept 2 (some .boolean) ∈ tblG := List.mem_filter.mpr ⟨List.mem_of_getElem? (i := 624) (rfl), rfl⟩
theorem ivX0_70 : InV RX0 70 yX0_discHasKept cX0_discHasKept 2 (some .boolean) 0 := ⟨mlX0_70, imX0_discHasKept, seX0_discHasKept, iniX0, cdX0_discHasKept, by decide +kernel⟩
theorem mlX0_74 : Cond.methodLink RX0 74 yX0_highestTargetInDisc ∈ tblG := List.mem_filter.mpr ⟨List.mem_of_getElem? (i := 625) (by decide +kernel), rfl⟩
theorem imX0_highestTargetInDisc : Cond.instanceMethod yX0_highestTargetInDisc ∈ tblG := List.mem_filter.mpr ⟨List.mem_of_getElem? (i := 627) (by decide +kernel), rfl⟩
theorem seX0_highestTargetInDisc : Cond.selects RX0 yX0_highestTargetInDisc yX0_highestTargetInDisc ∈ tblG := List.mem_filter.mpr ⟨List.mem_of_getElem? (i := 20) (by decide +kernel), rfl⟩
set_option maxRecDepth 100000 in
theorem cdX0_highestTargetInDisc : Cond.code yX0_highestTargetInDisc cX0_highestTargetInDisc 3 (some .int) ∈ tblG := List.mem_filter.mpr ⟨List.mem_of_getElem? (i := 628) (rfl), rfl⟩
theorem ivX0_74 : InV RX0 74 yX0_highestTargetInDisc cX0_highestTargetInDisc 3 (some .int) 0 := ⟨mlX0_74, imX0_highestTargetInDisc, seX0_highestTargetInDisc, iniX0, cdX0_highestTargetInDisc, by decide +kernel⟩
theorem mlX0_78 : Cond.methodLink RX0 78 yX0_markReached ∈ tblG := List.mem_filter.mpr ⟨List.mem_of_getElem? (i := 629) (by decide +kernel), rfl⟩
theorem imX0_markReached : Cond.instanceMethod yX0_markReached ∈ tblG := List.mem_filter.mpr ⟨List.mem_of_getElem? (i := 631) (by decide +kernel), rfl⟩
theorem seX0_markReached : Cond.selects RX0 yX0_markReached yX0_markReached ∈ tblG := List.mem_filter.mpr ⟨List.mem_of_getElem? (i := 21) (by decide +kernel), rfl⟩
set_option maxRecDepth 100000 in
theorem cdX0_markReached : Cond.code yX0_markReached cX0_markReached 5 (some .int) ∈ tblG := List.mem_filter.mpr ⟨List.mem_of_getElem? (i := 632) (rfl), rfl⟩
theorem ivX0_78 : InV RX0 78 yX0_markReached cX0_markReached 5 (some .int) 1 := ⟨mlX0_78, imX0_markReached, seX0_markReached, iniX0, cdX0_markReached, by decide +kernel⟩
theorem flX5_9 : Cond.fieldLink RX5 9 "RouterPaths$Tool" "radius" "I" ∈ tblG := List.mem_filter.mpr ⟨List.mem_of_getElem? (i := 109) (by decide +kernel), rfl⟩
theorem flX5_15 : Cond.fieldLink RX5 15 "RouterPaths$Tool" "feed" "I" ∈ tblG := List.mem_filter.mpr ⟨List.mem_of_getElem? (i := 111) (by decide +kernel), rfl⟩
theorem flX5_18 : Cond.fieldLink RX5 18 "RouterPaths$Tool" "halfWidths" "[I" ∈ tblG := List.mem_filter.mpr ⟨List.mem_of_getElem? (i := 113) (by decide +kernel), rfl⟩
theorem mlX5_22 : Cond.methodLink RX5 22 yX5_halfWidthAt ∈ tblG := List.mem_filter.mpr ⟨List.mem_of_getElem? (i := 491) (by decide +kernel), rfl⟩
theorem stX5_halfWidthAt : Cond.static yX5_halfWidthAt ∈ tblG := List.mem_filter.mpr ⟨List.mem_of_getElem? (i := 492) (by decide +kernel), rfl⟩
theorem iniX5 : Cond.initialized RX5 ∈ tblG := List.mem_filter.mpr ⟨List.mem_of_getElem? (i := 39) (by decide +kernel), rfl⟩
set_option maxRecDepth 100000 in
theorem cdX5_halfWidthAt : Cond.code yX5_halfWidthAt cX5_halfWidthAt 4 (some .int) ∈ tblG := List.mem_filter.mpr ⟨List.mem_of_getElem? (i := 493) (rfl), rfl⟩
theorem ivX5_22 : InS RX5 22 yX5_halfWidthAt cX5_halfWidthAt 4 (some .int) 2 := ⟨mlX5_22, stX5_halfWidthAt, iniX5, cdX5_halfWidthAt, by decide +kernel⟩
end
section
abbrev RX0_holds : Type := Int32
abbrev rmX0_holds : Room := { frames := 0, cells := 0, slots := 0, locals := 0 }
abbrev wsX0_holds (cA : Nat → ClassId) (h_o : Nat) (o_side : Int32) (o_cells : Int32) (o_heights : Value) (o_targets : Value) (o_kept : Value) (o_marks : Value) (o_disc : Value) (o_discSize : Int32) : va_W := [(h_o, .inr (0, [.int o_side, .int o_cells, o_heights, o_targets, o_kept, o_marks, o_disc, .int o_discSize]))]
def fX0_holds (N : Nat) (a1 : Int32) (a2 : Int32) (o_side : Int32) : Option RX0_holds :=
  (if a1 < 0 then some 0 else (if o_side ≤ a1 then some 0 else (if a2 < 0 then some 0 else (if o_side ≤ a2 then some 0 else some 1))))
set_option maxHeartbeats 4000000 in
set_option maxRecDepth 100000 in
theorem kX0_holds (l : Launch) (D : va_G) (cA : Nat → ClassId) (h_o : Nat) (o_side : Int32) (o_cells : Int32) (o_heights : Value) (o_targets : Value) (o_kept : Value) (o_marks : Value) (o_disc : Value) (o_discSize : Int32) (a1 : Int32) (a2 : Int32) (N : Nat) (res : RX0_holds) (hf0 : fX0_holds N a1 a2 o_side = some res) : CtI l yX0_holds (Cond.code yX0_holds cX0_holds 3 (some .boolean) :: tblG) rmX0_holds D cA (wsX0_holds cA h_o o_side o_cells o_heights o_targets o_kept o_marks o_disc o_discSize) [.ref h_o, .int a1, .int a2] res (wsX0_holds cA h_o o_side o_cells o_heights o_targets o_kept o_marks o_disc o_discSize) := by
  refine CtI.start (lv := [(0, .ref h_o), (1, .int a1), (2, .int a2)]) (by decide) (Nat.le_of_ble_eq_true rfl) rfl (fun κ hE => ?_)
  rw [fX0_holds] at hf0
  refine z_iload_n 1 (pc := 0) dX0_holds_0 rfl ?_
  refine z_if_lt (pc := 1) (tgt := 28) dX0_holds_1 (by decide) hf0 (fun hf0 => ?_) (fun hf0 => ?_)
  · refine z_iconst (pc := 28) (v := 0) dX0_holds_28 (by decide) ?_
    obtain rfl := Option.some.inj hf0
    exact z_zretL (by decide) hE dX0_holds_29
  · refine z_iload_n 1 (pc := 4) dX0_holds_4 rfl ?_
    refine z_aload_n 0 (pc := 5) dX0_holds_5 rfl ?_
    refine z_get 0 0 (pc := 6) (v := .int o_side) rfl rfl inX0 (by decide) flX0_9 rfl dX0_holds_6 ?_
    refine z_icmp_ge (pc := 9) (tgt := 28) dX0_holds_9 (by decide) hf0 (fun hf0 => ?_) (fun hf0 => ?_)
    · refine z_iconst (pc := 28) (v := 0) dX0_holds_28 (by decide) ?_
      obtain rfl := Option.some.inj hf0
      exact z_zretL (by decide) hE dX0_holds_29
    · refine z_iload_n 2 (pc := 12) dX0_holds_12 rfl ?_
      refine z_if_lt (pc := 13) (tgt := 28) dX0_holds_13 (by decide) hf0 (fun hf0 => ?_) (fun hf0 => ?_)
      · refine z_iconst (pc := 28) (v := 0) dX0_holds_28 (by decide) ?_
        obtain rfl := Option.some.inj hf0
        exact z_zretL (by decide) hE dX0_holds_29
      · refine z_iload_n 2 (pc := 16) dX0_holds_16 rfl ?_
        refine z_aload_n 0 (pc := 17) dX0_holds_17 rfl ?_
        refine z_get 0 0 (pc := 18) (v := .int o_side) rfl rfl inX0 (by decide) flX0_9 rfl dX0_holds_18 ?_
        refine z_icmp_ge (pc := 21) (tgt := 28) dX0_holds_21 (by decide) hf0 (fun hf0 => ?_) (fun hf0 => ?_)
        · refine z_iconst (pc := 28) (v := 0) dX0_holds_28 (by decide) ?_
          obtain rfl := Option.some.inj hf0
          exact z_zretL (by decide) hE dX0_holds_29
        · refine z_iconst (pc := 24) (v := 1) dX0_holds_24 (by decide) ?_
          refine z_goto (pc := 25) (tgt := 29) dX0_holds_25 (by decide) ?_
          obtain rfl := Option.some.inj hf0
          exact z_zretL (by decide) hE dX0_holds_29

abbrev RX0_placeOf : Type := Int32
abbrev rmX0_placeOf : Room := { frames := 0, cells := 0, slots := 0, locals := 0 }
abbrev wsX0_placeOf (cA : Nat → ClassId) (h_o : Nat) (o_side : Int32) (o_cells : Int32) (o_heights : Value) (o_targets : Value) (o_kept : Value) (o_marks : Value) (o_disc : Value) (o_discSize : Int32) : va_W := [(h_o, .inr (0, [.int o_side, .int o_cells, o_heights, o_targets, o_kept, o_marks, o_disc, .int o_discSize]))]
def fX0_placeOf (N : Nat) (a1 : Int32) (a2 : Int32) (o_side : Int32) : Option RX0_placeOf :=
  some ((o_side * a2) + a1)
set_option maxHeartbeats 4000000 in
set_option maxRecDepth 100000 in
theorem kX0_placeOf (l : Launch) (D : va_G) (cA : Nat → ClassId) (h_o : Nat) (o_side : Int32) (o_cells : Int32) (o_heights : Value) (o_targets : Value) (o_kept : Value) (o_marks : Value) (o_disc : Value) (o_discSize : Int32) (a1 : Int32) (a2 : Int32) (N : Nat) (res : RX0_placeOf) (hf0 : fX0_placeOf N a1 a2 o_side = some res) : CtI l yX0_placeOf (Cond.code yX0_placeOf cX0_placeOf 3 (some .int) :: tblG) rmX0_placeOf D cA (wsX0_placeOf cA h_o o_side o_cells o_heights o_targets o_kept o_marks o_disc o_discSize) [.ref h_o, .int a1, .int a2] res (wsX0_placeOf cA h_o o_side o_cells o_heights o_targets o_kept o_marks o_disc o_discSize) := by
  refine CtI.start (lv := [(0, .ref h_o), (1, .int a1), (2, .int a2)]) (by decide) (Nat.le_of_ble_eq_true rfl) rfl (fun κ hE => ?_)
  rw [fX0_placeOf] at hf0
  refine z_aload_n 0 (pc := 0) dX0_placeOf_0 rfl ?_
  refine z_get 0 0 (pc := 1) (v := .int o_side) rfl rfl inX0 (by decide) flX0_9 rfl dX0_placeOf_1 ?_
  refine z_iload_n 2 (pc := 4) dX0_placeOf_4 rfl ?_
  refine z_imul (pc := 5) dX0_placeOf_5 ?_
  refine z_iload_n 1 (pc := 6) dX0_placeOf_6 rfl ?_
  refine z_iadd (pc := 7) dX0_placeOf_7 ?_
  obtain rfl := Option.some.inj hf0
  exact z_iret hE dX0_placeOf_8

abbrev RX0_aimBlock : Type := (Nat → Int32)
abbrev rmX0_aimBlock : Room := { frames := 1, cells := 0, slots := 0, locals := 22 }
abbrev wsX0_aimBlock (cA : Nat → ClassId) (h_o : Nat) (h_o_targets : Nat) (o_side : Int32) (o_cells : Int32) (o_heights : Value) (o_kept : Value) (o_marks : Value) (o_disc : Value) (o_discSize : Int32) (o_targets_n : Nat) (o_targets : Nat → Int32) : va_W := [(h_o, .inr (0, [.int o_side, .int o_cells, o_heights, .ref h_o_targets, o_kept, o_marks, o_disc, .int o_discSize])), (h_o_targets, .inl (cA 0, o_targets_n, .inl o_targets))]
def LX0_aimBlock_13 (a3 : Int32) (N : Nat) (x6_3 : Int32) (o_side : Int32) (o_targets_n : Nat) (a5 : Int32) : Nat → Int32 → (Nat → Int32) → Option (Int32 × (Nat → Int32))
  | 0, _, _ => none
  | n + 1, x7_13, o_targets_13 => (if a3 < x7_13 then some (x7_13, o_targets_13) else ((fX0_placeOf N x7_13 x6_3 o_side).bind fun r3 => (if r3 < 0 ∨ o_targets_n ≤ r3.toNatClampNeg then none else LX0_aimBlock_13 a3 N x6_3 o_side o_targets_n a5 n (x7_13 + 1) (upd o_targets_13 r3.toNatClampNeg a5))))
def LX0_aimBlock_3 (a4 : Int32) (a3 : Int32) (N : Nat) (o_side : Int32) (o_targets_n : Nat) (a5 : Int32) (a1 : Int32) : Nat → Int32 → (Nat → Int32) → Option (Int32 × (Nat → Int32))
  | 0, _, _ => none
  | n + 1, x6_3, o_targets_3 => (if a4 < x6_3 then some (x6_3, o_targets_3) else ((LX0_aimBlock_13 a3 N x6_3 o_side o_targets_n a5 N a1 o_targets_3).bind fun r2 => LX0_aimBlock_3 a4 a3 N o_side o_targets_n a5 a1 n (x6_3 + 1) r2.2))
def fX0_aimBlock (N : Nat) (a1 : Int32) (a2 : Int32) (a3 : Int32) (a4 : Int32) (a5 : Int32) (o_side : Int32) (o_targets_n : Nat) (o_targets : Nat → Int32) : Option RX0_aimBlock :=
  ((LX0_aimBlock_3 a4 a3 N o_side o_targets_n a5 a1 N a2 o_targets).bind fun r1 => some r1.2)
set_option maxHeartbeats 4000000 in
set_option maxRecDepth 100000 in
theorem kX0_aimBlock (l : Launch) (D : va_G) (cA : Nat → ClassId) (h_o : Nat) (h_o_targets : Nat) (o_side : Int32) (o_cells : Int32) (o_heights : Value) (o_kept : Value) (o_marks : Value) (o_disc : Value) (o_discSize : Int32) (o_targets_n : Nat) (o_targets : Nat → Int32) (a1 : Int32) (a2 : Int32) (a3 : Int32) (a4 : Int32) (a5 : Int32) (N : Nat) (res : RX0_aimBlock) (hf0 : fX0_aimBlock N a1 a2 a3 a4 a5 o_side o_targets_n o_targets = some res) : CtV l yX0_aimBlock (Cond.code yX0_aimBlock cX0_aimBlock 8 (none) :: tblG) rmX0_aimBlock D cA (wsX0_aimBlock cA h_o h_o_targets o_side o_cells o_heights o_kept o_marks o_disc o_discSize o_targets_n o_targets) [.ref h_o, .int a1, .int a2, .int a3, .int a4, .int a5] (wsX0_aimBlock cA h_o h_o_targets o_side o_cells o_heights o_kept o_marks o_disc o_discSize o_targets_n res) := by
  refine CtV.start (lv := [(0, .ref h_o), (1, .int a1), (2, .int a2), (3, .int a3), (4, .int a4), (5, .int a5)]) (by decide) (Nat.le_of_ble_eq_true rfl) rfl (fun κ hE => ?_)
  rw [fX0_aimBlock] at hf0
  refine z_iload_n 2 (pc := 0) dX0_aimBlock_0 rfl ?_
  refine z_istore (pc := 1) (lv' := [(6, .int a2), (0, .ref h_o), (1, .int a1), (2, .int a2), (3, .int a3), (4, .int a4), (5, .int a5)]) dX0_aimBlock_1 (by decide) rfl ?_
  obtain ⟨y3, hf0_3, hf0⟩ := bp hf0
  have lp3 : ∀ (n : Nat) (x6_3 : Int32) (o_targets_3 : Nat → Int32), LX0_aimBlock_3 a4 a3 N o_side o_targets_n a5 a1 n x6_3 o_targets_3 = some y3 → V κ l D cA rmX0_aimBlock cX0_aimBlock 8 RX0 (none) 0 0 3 [(0, .ref h_o), (1, .int a1), (2, .int a2), (3, .int a3), (4, .int a4), (5, .int a5), (6, .int x6_3)] [] (wsX0_aimBlock cA h_o h_o_targets o_side o_cells o_heights o_kept o_marks o_disc o_discSize o_targets_n o_targets_3) := by
    intro n
    induction n with
    | zero => intro x6_3 o_targets_3 hf0_3; rw [LX0_aimBlock_3] at hf0_3; cases hf0_3
    | succ n ih3 =>
      intro x6_3 o_targets_3 hf0_3
      rw [LX0_aimBlock_3] at hf0_3
      refine z_iload 6 (pc := 3) dX0_aimBlock_3 rfl ?_
      refine z_iload 4 (pc := 5) dX0_aimBlock_5 rfl ?_
      refine z_icmp_gt (pc := 7) (tgt := 46) dX0_aimBlock_7 (by decide) hf0_3 (fun hf0_3 => ?_) (fun hf0_3 => ?_)
      · obtain rfl := Option.some.inj hf0_3
        obtain rfl := Option.some.inj hf0
        exact z_vret hE dX0_aimBlock_46
      · refine z_iload_n 1 (pc := 10) dX0_aimBlock_10 rfl ?_
        refine z_istore (pc := 11) (lv' := [(7, .int a1), (0, .ref h_o), (1, .int a1), (2, .int a2), (3, .int a3), (4, .int a4), (5, .int a5), (6, .int x6_3)]) dX0_aimBlock_11 (by decide) rfl ?_
        obtain ⟨y13, hf0_3_13, hf0_3⟩ := bp hf0_3
        have lp13 : ∀ (n : Nat) (x7_13 : Int32) (o_targets_13 : Nat → Int32), LX0_aimBlock_13 a3 N x6_3 o_side o_targets_n a5 n x7_13 o_targets_13 = some y13 → V κ l D cA rmX0_aimBlock cX0_aimBlock 8 RX0 (none) 0 0 13 [(0, .ref h_o), (1, .int a1), (2, .int a2), (3, .int a3), (4, .int a4), (5, .int a5), (6, .int x6_3), (7, .int x7_13)] [] (wsX0_aimBlock cA h_o h_o_targets o_side o_cells o_heights o_kept o_marks o_disc o_discSize o_targets_n o_targets_13) := by
          intro n
          induction n with
          | zero => intro x7_13 o_targets_13 hf0_3_13; rw [LX0_aimBlock_13] at hf0_3_13; cases hf0_3_13
          | succ n ih13 =>
            intro x7_13 o_targets_13 hf0_3_13
            rw [LX0_aimBlock_13] at hf0_3_13
            refine z_iload 7 (pc := 13) dX0_aimBlock_13 rfl ?_
            refine z_iload_n 3 (pc := 15) dX0_aimBlock_15 rfl ?_
            refine z_icmp_gt (pc := 16) (tgt := 40) dX0_aimBlock_16 (by decide) hf0_3_13 (fun hf0_3_13 => ?_) (fun hf0_3_13 => ?_)
            · obtain rfl := Option.some.inj hf0_3_13
              refine z_iinc 6 (pc := 40) (v := x6_3 + 1) (lv' := [(6, .int (x6_3 + 1)), (0, .ref h_o), (1, .int a1), (2, .int a2), (3, .int a3), (4, .int a4), (5, .int a5), (7, .int x7_13)]) dX0_aimBlock_40 rfl rfl (by decide) rfl ?_
              refine z_goto (pc := 43) (tgt := 3) dX0_aimBlock_43 (by decide) ?_
              exact z_lv [1, 2, 3, 4, 5, 6, 0] rfl (ih3 (x6_3 + 1) o_targets_13 hf0_3)
            · refine z_aload_n 0 (pc := 19) dX0_aimBlock_19 rfl ?_
              refine z_get 0 3 (pc := 20) (v := .ref h_o_targets) rfl rfl inX0 (by decide) flX0_22 rfl dX0_aimBlock_20 ?_
              refine z_aload_n 0 (pc := 23) dX0_aimBlock_23 rfl ?_
              refine z_iload 7 (pc := 24) dX0_aimBlock_24 rfl ?_
              refine z_iload 6 (pc := 26) dX0_aimBlock_26 rfl ?_
              obtain ⟨r3, er3, hf0_3_13⟩ := bp hf0_3_13
              refine z_calliV (pc := 28) (As := [.int x7_13, .int x6_3]) (rest := [.ref h_o_targets]) (ws' := (wsX0_aimBlock cA h_o h_o_targets o_side o_cells o_heights o_kept o_marks o_disc o_discSize o_targets_n o_targets_13)) (kX0_placeOf l D cA h_o o_side o_cells o_heights (.ref h_o_targets) o_kept o_marks o_disc o_discSize x7_13 x6_3 N r3 er3) ivX0_38 ⟨rfl, rfl⟩ ⟨by decide, by decide⟩ rfl ⟨Nat.zero_le _, Nat.zero_le _⟩ rfl rfl [0] rfl (by decide) rfl rfl rfl (Nat.le_of_ble_eq_true rfl) dX0_aimBlock_28 ?_
              refine z_iload 5 (pc := 31) dX0_aimBlock_31 rfl ?_
              refine z_iastore 1 0 (pc := 33) (ws' := (wsX0_aimBlock cA h_o h_o_targets o_side o_cells o_heights o_kept o_marks o_disc o_discSize o_targets_n (upd o_targets_13 r3.toNatClampNeg a5))) rfl rfl dX0_aimBlock_33 rfl hf0_3_13 (fun hf0_3_13 => ?_)
              refine z_iinc 7 (pc := 34) (v := x7_13 + 1) (lv' := [(7, .int (x7_13 + 1)), (0, .ref h_o), (1, .int a1), (2, .int a2), (3, .int a3), (4, .int a4), (5, .int a5), (6, .int x6_3)]) dX0_aimBlock_34 rfl rfl (by decide) rfl ?_
              refine z_goto (pc := 37) (tgt := 13) dX0_aimBlock_37 (by decide) ?_
              exact z_lv [1, 2, 3, 4, 5, 6, 7, 0] rfl (ih13 (x7_13 + 1) (upd o_targets_13 r3.toNatClampNeg a5) hf0_3_13)
        exact z_lv [1, 2, 3, 4, 5, 6, 7, 0] rfl (lp13 N a1 o_targets_3 hf0_3_13)
  exact z_lv [1, 2, 3, 4, 5, 6, 0] rfl (lp3 N a2 o_targets hf0_3)

abbrev RX0_guardBlock : Type := (Nat → Int32)
abbrev rmX0_guardBlock : Room := { frames := 1, cells := 0, slots := 0, locals := 22 }
abbrev wsX0_guardBlock (cA : Nat → ClassId) (h_o : Nat) (h_o_kept : Nat) (o_side : Int32) (o_cells : Int32) (o_heights : Value) (o_targets : Value) (o_marks : Value) (o_disc : Value) (o_discSize : Int32) (o_kept_n : Nat) (o_kept : Nat → Int32) : va_W := [(h_o, .inr (0, [.int o_side, .int o_cells, o_heights, o_targets, .ref h_o_kept, o_marks, o_disc, .int o_discSize])), (h_o_kept, .inl (cA 1, o_kept_n, .inl o_kept))]
def LX0_guardBlock_13 (a3 : Int32) (N : Nat) (x6_3 : Int32) (o_side : Int32) (o_kept_n : Nat) (a5 : Int32) : Nat → Int32 → (Nat → Int32) → Option (Int32 × (Nat → Int32))
  | 0, _, _ => none
  | n + 1, x7_13, o_kept_13 => (if a3 < x7_13 then some (x7_13, o_kept_13) else ((fX0_placeOf N x7_13 x6_3 o_side).bind fun r3 => (if r3 < 0 ∨ o_kept_n ≤ r3.toNatClampNeg then none else LX0_guardBlock_13 a3 N x6_3 o_side o_kept_n a5 n (x7_13 + 1) (upd o_kept_13 r3.toNatClampNeg (vp_nar .boolean a5)))))
def LX0_guardBlock_3 (a4 : Int32) (a3 : Int32) (N : Nat) (o_side : Int32) (o_kept_n : Nat) (a5 : Int32) (a1 : Int32) : Nat → Int32 → (Nat → Int32) → Option (Int32 × (Nat → Int32))
  | 0, _, _ => none
  | n + 1, x6_3, o_kept_3 => (if a4 < x6_3 then some (x6_3, o_kept_3) else ((LX0_guardBlock_13 a3 N x6_3 o_side o_kept_n a5 N a1 o_kept_3).bind fun r2 => LX0_guardBlock_3 a4 a3 N o_side o_kept_n a5 a1 n (x6_3 + 1) r2.2))
def fX0_guardBlock (N : Nat) (a1 : Int32) (a2 : Int32) (a3 : Int32) (a4 : Int32) (a5 : Int32) (o_side : Int32) (o_kept_n : Nat) (o_kept : Nat → Int32) : Option RX0_guardBlock :=
  ((LX0_guardBlock_3 a4 a3 N o_side o_kept_n a5 a1 N a2 o_kept).bind fun r1 => some r1.2)
set_option maxHeartbeats 4000000 in
set_option maxRecDepth 100000 in
theorem kX0_guardBlock (l : Launch) (D : va_G) (cA : Nat → ClassId) (h_o : Nat) (h_o_kept : Nat) (o_side : Int32) (o_cells : Int32) (o_heights : Value) (o_targets : Value) (o_marks : Value) (o_disc : Value) (o_discSize : Int32) (o_kept_n : Nat) (o_kept : Nat → Int32) (a1 : Int32) (a2 : Int32) (a3 : Int32) (a4 : Int32) (a5 : Int32) (N : Nat) (res : RX0_guardBlock) (hf0 : fX0_guardBlock N a1 a2 a3 a4 a5 o_side o_kept_n o_kept = some res) : CtV l yX0_guardBlock (Cond.code yX0_guardBlock cX0_guardBlock 8 (none) :: tblG) rmX0_guardBlock D cA (wsX0_guardBlock cA h_o h_o_kept o_side o_cells o_heights o_targets o_marks o_disc o_discSize o_kept_n o_kept) [.ref h_o, .int a1, .int a2, .int a3, .int a4, .int a5] (wsX0_guardBlock cA h_o h_o_kept o_side o_cells o_heights o_targets o_marks o_disc o_discSize o_kept_n res) := by
  refine CtV.start (lv := [(0, .ref h_o), (1, .int a1), (2, .int a2), (3, .int a3), (4, .int a4), (5, .int a5)]) (by decide) (Nat.le_of_ble_eq_true rfl) rfl (fun κ hE => ?_)
  rw [fX0_guardBlock] at hf0
  refine z_iload_n 2 (pc := 0) dX0_guardBlock_0 rfl ?_
  refine z_istore (pc := 1) (lv' := [(6, .int a2), (0, .ref h_o), (1, .int a1), (2, .int a2), (3, .int a3), (4, .int a4), (5, .int a5)]) dX0_guardBlock_1 (by decide) rfl ?_
  obtain ⟨y3, hf0_3, hf0⟩ := bp hf0
  have lp3 : ∀ (n : Nat) (x6_3 : Int32) (o_kept_3 : Nat → Int32), LX0_guardBlock_3 a4 a3 N o_side o_kept_n a5 a1 n x6_3 o_kept_3 = some y3 → V κ l D cA rmX0_guardBlock cX0_guardBlock 8 RX0 (none) 0 0 3 [(0, .ref h_o), (1, .int a1), (2, .int a2), (3, .int a3), (4, .int a4), (5, .int a5), (6, .int x6_3)] [] (wsX0_guardBlock cA h_o h_o_kept o_side o_cells o_heights o_targets o_marks o_disc o_discSize o_kept_n o_kept_3) := by
    intro n
    induction n with
    | zero => intro x6_3 o_kept_3 hf0_3; rw [LX0_guardBlock_3] at hf0_3; cases hf0_3
    | succ n ih3 =>
      intro x6_3 o_kept_3 hf0_3
      rw [LX0_guardBlock_3] at hf0_3
      refine z_iload 6 (pc := 3) dX0_guardBlock_3 rfl ?_
      refine z_iload 4 (pc := 5) dX0_guardBlock_5 rfl ?_
      refine z_icmp_gt (pc := 7) (tgt := 46) dX0_guardBlock_7 (by decide) hf0_3 (fun hf0_3 => ?_) (fun hf0_3 => ?_)
      · obtain rfl := Option.some.inj hf0_3
        obtain rfl := Option.some.inj hf0
        exact z_vret hE dX0_guardBlock_46
      · refine z_iload_n 1 (pc := 10) dX0_guardBlock_10 rfl ?_
        refine z_istore (pc := 11) (lv' := [(7, .int a1), (0, .ref h_o), (1, .int a1), (2, .int a2), (3, .int a3), (4, .int a4), (5, .int a5), (6, .int x6_3)]) dX0_guardBlock_11 (by decide) rfl ?_
        obtain ⟨y13, hf0_3_13, hf0_3⟩ := bp hf0_3
        have lp13 : ∀ (n : Nat) (x7_13 : Int32) (o_kept_13 : Nat → Int32), LX0_guardBlock_13 a3 N x6_3 o_side o_kept_n a5 n x7_13 o_kept_13 = some y13 → V κ l D cA rmX0_guardBlock cX0_guardBlock 8 RX0 (none) 0 0 13 [(0, .ref h_o), (1, .int a1), (2, .int a2), (3, .int a3), (4, .int a4), (5, .int a5), (6, .int x6_3), (7, .int x7_13)] [] (wsX0_guardBlock cA h_o h_o_kept o_side o_cells o_heights o_targets o_marks o_disc o_discSize o_kept_n o_kept_13) := by
          intro n
          induction n with
          | zero => intro x7_13 o_kept_13 hf0_3_13; rw [LX0_guardBlock_13] at hf0_3_13; cases hf0_3_13
          | succ n ih13 =>
            intro x7_13 o_kept_13 hf0_3_13
            rw [LX0_guardBlock_13] at hf0_3_13
            refine z_iload 7 (pc := 13) dX0_guardBlock_13 rfl ?_
            refine z_iload_n 3 (pc := 15) dX0_guardBlock_15 rfl ?_
            refine z_icmp_gt (pc := 16) (tgt := 40) dX0_guardBlock_16 (by decide) hf0_3_13 (fun hf0_3_13 => ?_) (fun hf0_3_13 => ?_)
            · obtain rfl := Option.some.inj hf0_3_13
              refine z_iinc 6 (pc := 40) (v := x6_3 + 1) (lv' := [(6, .int (x6_3 + 1)), (0, .ref h_o), (1, .int a1), (2, .int a2), (3, .int a3), (4, .int a4), (5, .int a5), (7, .int x7_13)]) dX0_guardBlock_40 rfl rfl (by decide) rfl ?_
              refine z_goto (pc := 43) (tgt := 3) dX0_guardBlock_43 (by decide) ?_
              exact z_lv [1, 2, 3, 4, 5, 6, 0] rfl (ih3 (x6_3 + 1) o_kept_13 hf0_3)
            · refine z_aload_n 0 (pc := 19) dX0_guardBlock_19 rfl ?_
              refine z_get 0 4 (pc := 20) (v := .ref h_o_kept) rfl rfl inX0 (by decide) flX0_25 rfl dX0_guardBlock_20 ?_
              refine z_aload_n 0 (pc := 23) dX0_guardBlock_23 rfl ?_
              refine z_iload 7 (pc := 24) dX0_guardBlock_24 rfl ?_
              refine z_iload 6 (pc := 26) dX0_guardBlock_26 rfl ?_
              obtain ⟨r3, er3, hf0_3_13⟩ := bp hf0_3_13
              refine z_calliV (pc := 28) (As := [.int x7_13, .int x6_3]) (rest := [.ref h_o_kept]) (ws' := (wsX0_guardBlock cA h_o h_o_kept o_side o_cells o_heights o_targets o_marks o_disc o_discSize o_kept_n o_kept_13)) (kX0_placeOf l D cA h_o o_side o_cells o_heights o_targets (.ref h_o_kept) o_marks o_disc o_discSize x7_13 x6_3 N r3 er3) ivX0_38 ⟨rfl, rfl⟩ ⟨by decide, by decide⟩ rfl ⟨Nat.zero_le _, Nat.zero_le _⟩ rfl rfl [0] rfl (by decide) rfl rfl rfl (Nat.le_of_ble_eq_true rfl) dX0_guardBlock_28 ?_
              refine z_iload 5 (pc := 31) dX0_guardBlock_31 rfl ?_
              refine z_zastore 1 1 (pc := 33) (ws' := (wsX0_guardBlock cA h_o h_o_kept o_side o_cells o_heights o_targets o_marks o_disc o_discSize o_kept_n (upd o_kept_13 r3.toNatClampNeg (vp_nar .boolean a5)))) rfl rfl dX0_guardBlock_33 rfl hf0_3_13 (fun hf0_3_13 => ?_)
              refine z_iinc 7 (pc := 34) (v := x7_13 + 1) (lv' := [(7, .int (x7_13 + 1)), (0, .ref h_o), (1, .int a1), (2, .int a2), (3, .int a3), (4, .int a4), (5, .int a5), (6, .int x6_3)]) dX0_guardBlock_34 rfl rfl (by decide) rfl ?_
              refine z_goto (pc := 37) (tgt := 13) dX0_guardBlock_37 (by decide) ?_
              exact z_lv [1, 2, 3, 4, 5, 6, 7, 0] rfl (ih13 (x7_13 + 1) (upd o_kept_13 r3.toNatClampNeg (vp_nar .boolean a5)) hf0_3_13)
        exact z_lv [1, 2, 3, 4, 5, 6, 7, 0] rfl (lp13 N a1 o_kept_3 hf0_3_13)
  exact z_lv [1, 2, 3, 4, 5, 6, 0] rfl (lp3 N a2 o_kept hf0_3)

abbrev RX0_fillUp : Type := (Nat → Int32)
abbrev rmX0_fillUp : Room := { frames := 0, cells := 0, slots := 0, locals := 0 }
abbrev wsX0_fillUp (cA : Nat → ClassId) (h_o : Nat) (h_o_heights : Nat) (o_side : Int32) (o_cells : Int32) (o_targets : Value) (o_kept : Value) (o_marks : Value) (o_disc : Value) (o_discSize : Int32) (o_heights_n : Nat) (o_heights : Nat → Int32) : va_W := [(h_o, .inr (0, [.int o_side, .int o_cells, .ref h_o_heights, o_targets, o_kept, o_marks, o_disc, .int o_discSize])), (h_o_heights, .inl (cA 0, o_heights_n, .inl o_heights))]
def LX0_fillUp_2 (o_cells : Int32) (o_heights_n : Nat) : Nat → Int32 → (Nat → Int32) → Option (Int32 × (Nat → Int32))
  | 0, _, _ => none
  | n + 1, x1_2, o_heights_2 => (if o_cells ≤ x1_2 then some (x1_2, o_heights_2) else (if x1_2 < 0 ∨ o_heights_n ≤ x1_2.toNatClampNeg then none else LX0_fillUp_2 o_cells o_heights_n n (x1_2 + 1) (upd o_heights_2 x1_2.toNatClampNeg 100)))
def fX0_fillUp (N : Nat)  (o_cells : Int32) (o_heights_n : Nat) (o_heights : Nat → Int32) : Option RX0_fillUp :=
  ((LX0_fillUp_2 o_cells o_heights_n N 0 o_heights).bind fun r1 => some r1.2)
set_option maxHeartbeats 4000000 in
set_option maxRecDepth 100000 in
theorem kX0_fillUp (l : Launch) (D : va_G) (cA : Nat → ClassId) (h_o : Nat) (h_o_heights : Nat) (o_side : Int32) (o_cells : Int32) (o_targets : Value) (o_kept : Value) (o_marks : Value) (o_disc : Value) (o_discSize : Int32) (o_heights_n : Nat) (o_heights : Nat → Int32)  (N : Nat) (res : RX0_fillUp) (hf0 : fX0_fillUp N o_cells o_heights_n o_heights = some res) : CtV l yX0_fillUp (Cond.code yX0_fillUp cX0_fillUp 2 (none) :: tblG) rmX0_fillUp D cA (wsX0_fillUp cA h_o h_o_heights o_side o_cells o_targets o_kept o_marks o_disc o_discSize o_heights_n o_heights) [.ref h_o] (wsX0_fillUp cA h_o h_o_heights o_side o_cells o_targets o_kept o_marks o_disc o_discSize o_heights_n res) := by
  refine CtV.start (lv := [(0, .ref h_o)]) (by decide) (Nat.le_of_ble_eq_true rfl) rfl (fun κ hE => ?_)
  rw [fX0_fillUp] at hf0
  refine z_iconst (pc := 0) (v := 0) dX0_fillUp_0 (by decide) ?_
  refine z_istore_n (pc := 1) (lv' := [(1, .int 0), (0, .ref h_o)]) dX0_fillUp_1 (by decide) rfl ?_
  obtain ⟨y2, hf0_2, hf0⟩ := bp hf0
  have lp2 : ∀ (n : Nat) (x1_2 : Int32) (o_heights_2 : Nat → Int32), LX0_fillUp_2 o_cells o_heights_n n x1_2 o_heights_2 = some y2 → V κ l D cA rmX0_fillUp cX0_fillUp 2 RX0 (none) 0 0 2 [(0, .ref h_o), (1, .int x1_2)] [] (wsX0_fillUp cA h_o h_o_heights o_side o_cells o_targets o_kept o_marks o_disc o_discSize o_heights_n o_heights_2) := by
    intro n
    induction n with
    | zero => intro x1_2 o_heights_2 hf0_2; rw [LX0_fillUp_2] at hf0_2; cases hf0_2
    | succ n ih2 =>
      intro x1_2 o_heights_2 hf0_2
      rw [LX0_fillUp_2] at hf0_2
      refine z_iload_n 1 (pc := 2) dX0_fillUp_2 rfl ?_
      refine z_aload_n 0 (pc := 3) dX0_fillUp_3 rfl ?_
      refine z_get 0 1 (pc := 4) (v := .int o_cells) rfl rfl inX0 (by decide) flX0_15 rfl dX0_fillUp_4 ?_
      refine z_icmp_ge (pc := 7) (tgt := 24) dX0_fillUp_7 (by decide) hf0_2 (fun hf0_2 => ?_) (fun hf0_2 => ?_)
      · obtain rfl := Option.some.inj hf0_2
        obtain rfl := Option.some.inj hf0
        exact z_vret hE dX0_fillUp_24
      · refine z_aload_n 0 (pc := 10) dX0_fillUp_10 rfl ?_
        refine z_get 0 2 (pc := 11) (v := .ref h_o_heights) rfl rfl inX0 (by decide) flX0_18 rfl dX0_fillUp_11 ?_
        refine z_iload_n 1 (pc := 14) dX0_fillUp_14 rfl ?_
        refine z_bipush (pc := 15) (v := 100) dX0_fillUp_15 (by decide) ?_
        refine z_iastore 1 0 (pc := 17) (ws' := (wsX0_fillUp cA h_o h_o_heights o_side o_cells o_targets o_kept o_marks o_disc o_discSize o_heights_n (upd o_heights_2 x1_2.toNatClampNeg 100))) rfl rfl dX0_fillUp_17 rfl hf0_2 (fun hf0_2 => ?_)
        refine z_iinc 1 (pc := 18) (v := x1_2 + 1) (lv' := [(1, .int (x1_2 + 1)), (0, .ref h_o)]) dX0_fillUp_18 rfl rfl (by decide) rfl ?_
        refine z_goto (pc := 21) (tgt := 2) dX0_fillUp_21 (by decide) ?_
        exact z_lv [1, 0] rfl (ih2 (x1_2 + 1) (upd o_heights_2 x1_2.toNatClampNeg 100) hf0_2)
  exact z_lv [1, 0] rfl (lp2 N 0 o_heights hf0_2)

abbrev RX0_isOff : Type := Int32
abbrev rmX0_isOff : Room := { frames := 0, cells := 0, slots := 0, locals := 0 }
abbrev wsX0_isOff (cA : Nat → ClassId) (h_o : Nat) (h_o_heights : Nat) (h_o_targets : Nat) (o_side : Int32) (o_cells : Int32) (o_kept : Value) (o_marks : Value) (o_disc : Value) (o_discSize : Int32) (o_heights_n : Nat) (o_heights : Nat → Int32) (o_targets_n : Nat) (o_targets : Nat → Int32) : va_W := [(h_o, .inr (0, [.int o_side, .int o_cells, .ref h_o_heights, .ref h_o_targets, o_kept, o_marks, o_disc, .int o_discSize])), (h_o_heights, .inl (cA 0, o_heights_n, .inl o_heights)), (h_o_targets, .inl (cA 0, o_targets_n, .inl o_targets))]
def fX0_isOff (N : Nat) (a1 : Int32) (a2 : Int32) (o_heights_n : Nat) (o_heights : Nat → Int32) (o_targets_n : Nat) (o_targets : Nat → Int32) : Option RX0_isOff :=
  (if a2 = 0 then (if a1 < 0 ∨ o_heights_n ≤ a1.toNatClampNeg then none else (if a1 < 0 ∨ o_targets_n ≤ a1.toNatClampNeg then none else (if (o_targets a1.toNatClampNeg) ≤ (o_heights a1.toNatClampNeg) then some 0 else some 1))) else (if a1 < 0 ∨ o_heights_n ≤ a1.toNatClampNeg then none else (if a1 < 0 ∨ o_targets_n ≤ a1.toNatClampNeg then none else (if (o_heights a1.toNatClampNeg) ≤ (o_targets a1.toNatClampNeg) then some 0 else some 1))))
set_option maxHeartbeats 4000000 in
set_option maxRecDepth 100000 in
theorem kX0_isOff (l : Launch) (D : va_G) (cA : Nat → ClassId) (h_o : Nat) (h_o_heights : Nat) (h_o_targets : Nat) (o_side : Int32) (o_cells : Int32) (o_kept : Value) (o_marks : Value) (o_disc : Value) (o_discSize : Int32) (o_heights_n : Nat) (o_heights : Nat → Int32) (o_targets_n : Nat) (o_targets : Nat → Int32) (a1 : Int32) (a2 : Int32) (N : Nat) (res : RX0_isOff) (hf0 : fX0_isOff N a1 a2 o_heights_n o_heights o_targets_n o_targets = some res) : CtI l yX0_isOff (Cond.code yX0_isOff cX0_isOff 3 (some .boolean) :: tblG) rmX0_isOff D cA (wsX0_isOff cA h_o h_o_heights h_o_targets o_side o_cells o_kept o_marks o_disc o_discSize o_heights_n o_heights o_targets_n o_targets) [.ref h_o, .int a1, .int a2] res (wsX0_isOff cA h_o h_o_heights h_o_targets o_side o_cells o_kept o_marks o_disc o_discSize o_heights_n o_heights o_targets_n o_targets) := by
  refine CtI.start (lv := [(0, .ref h_o), (1, .int a1), (2, .int a2)]) (by decide) (Nat.le_of_ble_eq_true rfl) rfl (fun κ hE => ?_)
  rw [fX0_isOff] at hf0
  refine z_iload_n 2 (pc := 0) dX0_isOff_0 rfl ?_
  refine z_if_eq (pc := 1) (tgt := 27) dX0_isOff_1 (by decide) hf0 (fun hf0 => ?_) (fun hf0 => ?_)
  · refine z_aload_n 0 (pc := 27) dX0_isOff_27 rfl ?_
    refine z_get 0 2 (pc := 28) (v := .ref h_o_heights) rfl rfl inX0 (by decide) flX0_18 rfl dX0_isOff_28 ?_
    refine z_iload_n 1 (pc := 31) dX0_isOff_31 rfl ?_
    refine z_iaload 1 0 (pc := 32) rfl rfl dX0_isOff_32 hf0 (fun hf0 => ?_)
    refine z_aload_n 0 (pc := 33) dX0_isOff_33 rfl ?_
    refine z_get 0 3 (pc := 34) (v := .ref h_o_targets) rfl rfl inX0 (by decide) flX0_22 rfl dX0_isOff_34 ?_
    refine z_iload_n 1 (pc := 37) dX0_isOff_37 rfl ?_
    refine z_iaload 2 0 (pc := 38) rfl rfl dX0_isOff_38 hf0 (fun hf0 => ?_)
    refine z_icmp_ge (pc := 39) (tgt := 46) dX0_isOff_39 (by decide) hf0 (fun hf0 => ?_) (fun hf0 => ?_)
    · refine z_iconst (pc := 46) (v := 0) dX0_isOff_46 (by decide) ?_
      obtain rfl := Option.some.inj hf0
      exact z_zretL (by decide) hE dX0_isOff_47
    · refine z_iconst (pc := 42) (v := 1) dX0_isOff_42 (by decide) ?_
      refine z_goto (pc := 43) (tgt := 47) dX0_isOff_43 (by decide) ?_
      obtain rfl := Option.some.inj hf0
      exact z_zretL (by decide) hE dX0_isOff_47
  · refine z_aload_n 0 (pc := 4) dX0_isOff_4 rfl ?_
    refine z_get 0 2 (pc := 5) (v := .ref h_o_heights) rfl rfl inX0 (by decide) flX0_18 rfl dX0_isOff_5 ?_
    refine z_iload_n 1 (pc := 8) dX0_isOff_8 rfl ?_
    refine z_iaload 1 0 (pc := 9) rfl rfl dX0_isOff_9 hf0 (fun hf0 => ?_)
    refine z_aload_n 0 (pc := 10) dX0_isOff_10 rfl ?_
    refine z_get 0 3 (pc := 11) (v := .ref h_o_targets) rfl rfl inX0 (by decide) flX0_22 rfl dX0_isOff_11 ?_
    refine z_iload_n 1 (pc := 14) dX0_isOff_14 rfl ?_
    refine z_iaload 2 0 (pc := 15) rfl rfl dX0_isOff_15 hf0 (fun hf0 => ?_)
    refine z_icmp_le (pc := 16) (tgt := 23) dX0_isOff_16 (by decide) hf0 (fun hf0 => ?_) (fun hf0 => ?_)
    · refine z_iconst (pc := 23) (v := 0) dX0_isOff_23 (by decide) ?_
      refine z_goto (pc := 24) (tgt := 47) dX0_isOff_24 (by decide) ?_
      obtain rfl := Option.some.inj hf0
      exact z_zretL (by decide) hE dX0_isOff_47
    · refine z_iconst (pc := 19) (v := 1) dX0_isOff_19 (by decide) ?_
      refine z_goto (pc := 20) (tgt := 47) dX0_isOff_20 (by decide) ?_
      obtain rfl := Option.some.inj hf0
      exact z_zretL (by decide) hE dX0_isOff_47

abbrev RX0_countOff : Type := Int32
abbrev rmX0_countOff : Room := { frames := 1, cells := 0, slots := 0, locals := 22 }
abbrev wsX0_countOff (cA : Nat → ClassId) (h_o : Nat) (h_o_heights : Nat) (h_o_targets : Nat) (o_side : Int32) (o_cells : Int32) (o_kept : Value) (o_marks : Value) (o_disc : Value) (o_discSize : Int32) (o_heights_n : Nat) (o_heights : Nat → Int32) (o_targets_n : Nat) (o_targets : Nat → Int32) : va_W := [(h_o, .inr (0, [.int o_side, .int o_cells, .ref h_o_heights, .ref h_o_targets, o_kept, o_marks, o_disc, .int o_discSize])), (h_o_heights, .inl (cA 0, o_heights_n, .inl o_heights)), (h_o_targets, .inl (cA 0, o_targets_n, .inl o_targets))]
def LX0_countOff_4 (o_cells : Int32) (N : Nat) (a1 : Int32) (o_heights_n : Nat) (o_heights : Nat → Int32) (o_targets_n : Nat) (o_targets : Nat → Int32) : Nat → Int32 → Int32 → Option (Int32 × Int32)
  | 0, _, _ => none
  | n + 1, x2_4, x3_4 => (if o_cells ≤ x3_4 then some (x2_4, x3_4) else ((fX0_isOff N x3_4 a1 o_heights_n o_heights o_targets_n o_targets).bind fun r2 => (if r2 = 0 then LX0_countOff_4 o_cells N a1 o_heights_n o_heights o_targets_n o_targets n x2_4 (x3_4 + 1) else LX0_countOff_4 o_cells N a1 o_heights_n o_heights o_targets_n o_targets n (x2_4 + 1) (x3_4 + 1))))
def fX0_countOff (N : Nat) (a1 : Int32) (o_cells : Int32) (o_heights_n : Nat) (o_heights : Nat → Int32) (o_targets_n : Nat) (o_targets : Nat → Int32) : Option RX0_countOff :=
  ((LX0_countOff_4 o_cells N a1 o_heights_n o_heights o_targets_n o_targets N 0 0).bind fun r1 => some r1.1)
set_option maxHeartbeats 4000000 in
set_option maxRecDepth 100000 in
theorem kX0_countOff (l : Launch) (D : va_G) (cA : Nat → ClassId) (h_o : Nat) (h_o_heights : Nat) (h_o_targets : Nat) (o_side : Int32) (o_cells : Int32) (o_kept : Value) (o_marks : Value) (o_disc : Value) (o_discSize : Int32) (o_heights_n : Nat) (o_heights : Nat → Int32) (o_targets_n : Nat) (o_targets : Nat → Int32) (a1 : Int32) (N : Nat) (res : RX0_countOff) (hf0 : fX0_countOff N a1 o_cells o_heights_n o_heights o_targets_n o_targets = some res) : CtI l yX0_countOff (Cond.code yX0_countOff cX0_countOff 4 (some .int) :: tblG) rmX0_countOff D cA (wsX0_countOff cA h_o h_o_heights h_o_targets o_side o_cells o_kept o_marks o_disc o_discSize o_heights_n o_heights o_targets_n o_targets) [.ref h_o, .int a1] res (wsX0_countOff cA h_o h_o_heights h_o_targets o_side o_cells o_kept o_marks o_disc o_discSize o_heights_n o_heights o_targets_n o_targets) := by
  refine CtI.start (lv := [(0, .ref h_o), (1, .int a1)]) (by decide) (Nat.le_of_ble_eq_true rfl) rfl (fun κ hE => ?_)
  rw [fX0_countOff] at hf0
  refine z_iconst (pc := 0) (v := 0) dX0_countOff_0 (by decide) ?_
  refine z_istore_n (pc := 1) (lv' := [(2, .int 0), (0, .ref h_o), (1, .int a1)]) dX0_countOff_1 (by decide) rfl ?_
  refine z_iconst (pc := 2) (v := 0) dX0_countOff_2 (by decide) ?_
  refine z_istore_n (pc := 3) (lv' := [(3, .int 0), (2, .int 0), (0, .ref h_o), (1, .int a1)]) dX0_countOff_3 (by decide) rfl ?_
  obtain ⟨y4, hf0_4, hf0⟩ := bp hf0
  have lp4 : ∀ (n : Nat) (x2_4 : Int32) (x3_4 : Int32), LX0_countOff_4 o_cells N a1 o_heights_n o_heights o_targets_n o_targets n x2_4 x3_4 = some y4 → V κ l D cA rmX0_countOff cX0_countOff 4 RX0 (some .int) 0 0 4 [(0, .ref h_o), (1, .int a1), (2, .int x2_4), (3, .int x3_4)] [] (wsX0_countOff cA h_o h_o_heights h_o_targets o_side o_cells o_kept o_marks o_disc o_discSize o_heights_n o_heights o_targets_n o_targets) := by
    intro n
    induction n with
    | zero => intro x2_4 x3_4 hf0_4; rw [LX0_countOff_4] at hf0_4; cases hf0_4
    | succ n ih4 =>
      intro x2_4 x3_4 hf0_4
      rw [LX0_countOff_4] at hf0_4
      refine z_iload_n 3 (pc := 4) dX0_countOff_4 rfl ?_
      refine z_aload_n 0 (pc := 5) dX0_countOff_5 rfl ?_
      refine z_get 0 1 (pc := 6) (v := .int o_cells) rfl rfl inX0 (by decide) flX0_15 rfl dX0_countOff_6 ?_
      refine z_icmp_ge (pc := 9) (tgt := 30) dX0_countOff_9 (by decide) hf0_4 (fun hf0_4 => ?_) (fun hf0_4 => ?_)
      · obtain rfl := Option.some.inj hf0_4
        refine z_iload_n 2 (pc := 30) dX0_countOff_30 rfl ?_
        obtain rfl := Option.some.inj hf0
        exact z_iret hE dX0_countOff_31
      · refine z_aload_n 0 (pc := 12) dX0_countOff_12 rfl ?_
        refine z_iload_n 3 (pc := 13) dX0_countOff_13 rfl ?_
        refine z_iload_n 1 (pc := 14) dX0_countOff_14 rfl ?_
        obtain ⟨r2, er2, hf0_4⟩ := bp hf0_4
        refine z_calliV (pc := 15) (As := [.int x3_4, .int a1]) (rest := []) (ws' := (wsX0_countOff cA h_o h_o_heights h_o_targets o_side o_cells o_kept o_marks o_disc o_discSize o_heights_n o_heights o_targets_n o_targets)) (kX0_isOff l D cA h_o h_o_heights h_o_targets o_side o_cells o_kept o_marks o_disc o_discSize o_heights_n o_heights o_targets_n o_targets x3_4 a1 N r2 er2) ivX0_42 ⟨rfl, rfl⟩ ⟨by decide, by decide⟩ rfl ⟨Nat.zero_le _, Nat.zero_le _⟩ rfl rfl [0, 1, 2] rfl (by decide) rfl rfl rfl (Nat.le_of_ble_eq_true rfl) dX0_countOff_15 ?_
        refine z_if_eq (pc := 18) (tgt := 24) dX0_countOff_18 (by decide) hf0_4 (fun hf0_4 => ?_) (fun hf0_4 => ?_)
        · refine z_iinc 3 (pc := 24) (v := x3_4 + 1) (lv' := [(3, .int (x3_4 + 1)), (0, .ref h_o), (1, .int a1), (2, .int x2_4)]) dX0_countOff_24 rfl rfl (by decide) rfl ?_
          refine z_goto (pc := 27) (tgt := 4) dX0_countOff_27 (by decide) ?_
          exact z_lv [1, 2, 3, 0] rfl (ih4 x2_4 (x3_4 + 1) hf0_4)
        · refine z_iinc 2 (pc := 21) (v := x2_4 + 1) (lv' := [(2, .int (x2_4 + 1)), (0, .ref h_o), (1, .int a1), (3, .int x3_4)]) dX0_countOff_21 rfl rfl (by decide) rfl ?_
          refine z_iinc 3 (pc := 24) (v := x3_4 + 1) (lv' := [(3, .int (x3_4 + 1)), (2, .int (x2_4 + 1)), (0, .ref h_o), (1, .int a1)]) dX0_countOff_24 rfl rfl (by decide) rfl ?_
          refine z_goto (pc := 27) (tgt := 4) dX0_countOff_27 (by decide) ?_
          exact z_lv [2, 3, 1, 0] rfl (ih4 (x2_4 + 1) (x3_4 + 1) hf0_4)
  exact z_lv [2, 3, 1, 0] rfl (lp4 N 0 0 hf0_4)

abbrev RX0_firstOff : Type := Int32
abbrev rmX0_firstOff : Room := { frames := 1, cells := 0, slots := 0, locals := 22 }
abbrev wsX0_firstOff (cA : Nat → ClassId) (h_o : Nat) (h_o_heights : Nat) (h_o_targets : Nat) (o_side : Int32) (o_cells : Int32) (o_kept : Value) (o_marks : Value) (o_disc : Value) (o_discSize : Int32) (o_heights_n : Nat) (o_heights : Nat → Int32) (o_targets_n : Nat) (o_targets : Nat → Int32) : va_W := [(h_o, .inr (0, [.int o_side, .int o_cells, .ref h_o_heights, .ref h_o_targets, o_kept, o_marks, o_disc, .int o_discSize])), (h_o_heights, .inl (cA 0, o_heights_n, .inl o_heights)), (h_o_targets, .inl (cA 0, o_targets_n, .inl o_targets))]
def LX0_firstOff_2 (o_cells : Int32) (N : Nat) (a1 : Int32) (o_heights_n : Nat) (o_heights : Nat → Int32) (o_targets_n : Nat) (o_targets : Nat → Int32) : Nat → Int32 → Option (RX0_firstOff)
  | 0, _ => none
  | n + 1, x2_2 => (if o_cells ≤ x2_2 then some (-1) else ((fX0_isOff N x2_2 a1 o_heights_n o_heights o_targets_n o_targets).bind fun r1 => (if r1 = 0 then LX0_firstOff_2 o_cells N a1 o_heights_n o_heights o_targets_n o_targets n (x2_2 + 1) else some x2_2)))
def fX0_firstOff (N : Nat) (a1 : Int32) (o_cells : Int32) (o_heights_n : Nat) (o_heights : Nat → Int32) (o_targets_n : Nat) (o_targets : Nat → Int32) : Option RX0_firstOff :=
  LX0_firstOff_2 o_cells N a1 o_heights_n o_heights o_targets_n o_targets N 0
set_option maxHeartbeats 4000000 in
set_option maxRecDepth 100000 in
theorem kX0_firstOff (l : Launch) (D : va_G) (cA : Nat → ClassId) (h_o : Nat) (h_o_heights : Nat) (h_o_targets : Nat) (o_side : Int32) (o_cells : Int32) (o_kept : Value) (o_marks : Value) (o_disc : Value) (o_discSize : Int32) (o_heights_n : Nat) (o_heights : Nat → Int32) (o_targets_n : Nat) (o_targets : Nat → Int32) (a1 : Int32) (N : Nat) (res : RX0_firstOff) (hf0 : fX0_firstOff N a1 o_cells o_heights_n o_heights o_targets_n o_targets = some res) : CtI l yX0_firstOff (Cond.code yX0_firstOff cX0_firstOff 3 (some .int) :: tblG) rmX0_firstOff D cA (wsX0_firstOff cA h_o h_o_heights h_o_targets o_side o_cells o_kept o_marks o_disc o_discSize o_heights_n o_heights o_targets_n o_targets) [.ref h_o, .int a1] res (wsX0_firstOff cA h_o h_o_heights h_o_targets o_side o_cells o_kept o_marks o_disc o_discSize o_heights_n o_heights o_targets_n o_targets) := by
  refine CtI.start (lv := [(0, .ref h_o), (1, .int a1)]) (by decide) (Nat.le_of_ble_eq_true rfl) rfl (fun κ hE => ?_)
  rw [fX0_firstOff] at hf0
  refine z_iconst (pc := 0) (v := 0) dX0_firstOff_0 (by decide) ?_
  refine z_istore_n (pc := 1) (lv' := [(2, .int 0), (0, .ref h_o), (1, .int a1)]) dX0_firstOff_1 (by decide) rfl ?_
  have lp2 : ∀ (n : Nat) (x2_2 : Int32), LX0_firstOff_2 o_cells N a1 o_heights_n o_heights o_targets_n o_targets n x2_2 = some res → V κ l D cA rmX0_firstOff cX0_firstOff 3 RX0 (some .int) 0 0 2 [(0, .ref h_o), (1, .int a1), (2, .int x2_2)] [] (wsX0_firstOff cA h_o h_o_heights h_o_targets o_side o_cells o_kept o_marks o_disc o_discSize o_heights_n o_heights o_targets_n o_targets) := by
    intro n
    induction n with
    | zero => intro x2_2 hf0; rw [LX0_firstOff_2] at hf0; cases hf0
    | succ n ih2 =>
      intro x2_2 hf0
      rw [LX0_firstOff_2] at hf0
      refine z_iload_n 2 (pc := 2) dX0_firstOff_2 rfl ?_
      refine z_aload_n 0 (pc := 3) dX0_firstOff_3 rfl ?_
      refine z_get 0 1 (pc := 4) (v := .int o_cells) rfl rfl inX0 (by decide) flX0_15 rfl dX0_firstOff_4 ?_
      refine z_icmp_ge (pc := 7) (tgt := 27) dX0_firstOff_7 (by decide) hf0 (fun hf0 => ?_) (fun hf0 => ?_)
      · refine z_iconst (pc := 27) (v := (-1)) dX0_firstOff_27 (by decide) ?_
        obtain rfl := Option.some.inj hf0
        exact z_iret hE dX0_firstOff_28
      · refine z_aload_n 0 (pc := 10) dX0_firstOff_10 rfl ?_
        refine z_iload_n 2 (pc := 11) dX0_firstOff_11 rfl ?_
        refine z_iload_n 1 (pc := 12) dX0_firstOff_12 rfl ?_
        obtain ⟨r1, er1, hf0⟩ := bp hf0
        refine z_calliV (pc := 13) (As := [.int x2_2, .int a1]) (rest := []) (ws' := (wsX0_firstOff cA h_o h_o_heights h_o_targets o_side o_cells o_kept o_marks o_disc o_discSize o_heights_n o_heights o_targets_n o_targets)) (kX0_isOff l D cA h_o h_o_heights h_o_targets o_side o_cells o_kept o_marks o_disc o_discSize o_heights_n o_heights o_targets_n o_targets x2_2 a1 N r1 er1) ivX0_42 ⟨rfl, rfl⟩ ⟨by decide, by decide⟩ rfl ⟨Nat.zero_le _, Nat.zero_le _⟩ rfl rfl [0, 1, 2] rfl (by decide) rfl rfl rfl (Nat.le_of_ble_eq_true rfl) dX0_firstOff_13 ?_
        refine z_if_eq (pc := 16) (tgt := 21) dX0_firstOff_16 (by decide) hf0 (fun hf0 => ?_) (fun hf0 => ?_)
        · refine z_iinc 2 (pc := 21) (v := x2_2 + 1) (lv' := [(2, .int (x2_2 + 1)), (0, .ref h_o), (1, .int a1)]) dX0_firstOff_21 rfl rfl (by decide) rfl ?_
          refine z_goto (pc := 24) (tgt := 2) dX0_firstOff_24 (by decide) ?_
          exact z_lv [1, 2, 0] rfl (ih2 (x2_2 + 1) hf0)
        · refine z_iload_n 2 (pc := 19) dX0_firstOff_19 rfl ?_
          obtain rfl := Option.some.inj hf0
          exact z_iret hE dX0_firstOff_20
  exact z_lv [1, 2, 0] rfl (lp2 N 0 hf0)

abbrev RX0_layDisc : Type := Int32 × (Nat → Int32)
abbrev rmX0_layDisc : Room := { frames := 1, cells := 0, slots := 0, locals := 22 }
abbrev wsX0_layDisc (cA : Nat → ClassId) (h_o : Nat) (h_p1 : Nat) (h_p1_halfWidths : Nat) (h_o_disc : Nat) (o_side : Int32) (o_cells : Int32) (o_heights : Value) (o_targets : Value) (o_kept : Value) (o_marks : Value) (o_discSize : Int32) (p1_radius : Int32) (p1_feed : Int32) (p1_halfWidths_n : Nat) (p1_halfWidths : Nat → Int32) (o_disc_n : Nat) (o_disc : Nat → Int32) : va_W := [(h_o, .inr (0, [.int o_side, .int o_cells, o_heights, o_targets, o_kept, o_marks, .ref h_o_disc, .int o_discSize])), (h_p1, .inr (5, [.int p1_radius, .int p1_feed, .ref h_p1_halfWidths])), (h_p1_halfWidths, .inl (cA 0, p1_halfWidths_n, .inl p1_halfWidths)), (h_o_disc, .inl (cA 0, o_disc_n, .inl o_disc))]
def LX0_layDisc_80 (k3 : Int32) (N : Nat) (x5_34 : Int32) (o_side : Int32) (o_disc_n : Nat) : Nat → Int32 → (Nat → Int32) → Int32 → Option (Int32 × (Nat → Int32) × Int32)
  | 0, _, _, _ => none
  | n + 1, x8_80, o_disc_80, o_discSize_80 => (if k3 < x8_80 then some (x8_80, o_disc_80, o_discSize_80) else ((fX0_placeOf N x8_80 x5_34 o_side).bind fun r6 => (if o_discSize_80 < 0 ∨ o_disc_n ≤ o_discSize_80.toNatClampNeg then none else LX0_layDisc_80 k3 N x5_34 o_side o_disc_n n (x8_80 + 1) (upd o_disc_80 o_discSize_80.toNatClampNeg r6) (o_discSize_80 + 1))))
def LX0_layDisc_34 (k1 : Int32) (a3 : Int32) (p1_halfWidths_n : Nat) (a2 : Int32) (p1_halfWidths : Nat → Int32) (o_side : Int32) (N : Nat) (o_disc_n : Nat) : Nat → Int32 → (Nat → Int32) → Int32 → Option (Int32 × (Nat → Int32) × Int32)
  | 0, _, _, _ => none
  | n + 1, x5_34, o_disc_34, o_discSize_34 => (if k1 < x5_34 then some (x5_34, o_disc_34, o_discSize_34) else (if (if 0 ≤ (x5_34 - a3) then (x5_34 - a3) else 0 - (x5_34 - a3)) < 0 ∨ p1_halfWidths_n ≤ (if 0 ≤ (x5_34 - a3) then (x5_34 - a3) else 0 - (x5_34 - a3)).toNatClampNeg then none else ((LX0_layDisc_80 (if (a2 + (p1_halfWidths (if 0 ≤ (x5_34 - a3) then (x5_34 - a3) else 0 - (x5_34 - a3)).toNatClampNeg)) < (o_side - 1) then (a2 + (p1_halfWidths (if 0 ≤ (x5_34 - a3) then (x5_34 - a3) else 0 - (x5_34 - a3)).toNatClampNeg)) else (o_side - 1)) N x5_34 o_side o_disc_n N (if 0 < (a2 - (p1_halfWidths (if 0 ≤ (x5_34 - a3) then (x5_34 - a3) else 0 - (x5_34 - a3)).toNatClampNeg)) then (a2 - (p1_halfWidths (if 0 ≤ (x5_34 - a3) then (x5_34 - a3) else 0 - (x5_34 - a3)).toNatClampNeg)) else 0) o_disc_34 o_discSize_34).bind fun r5 => LX0_layDisc_34 k1 a3 p1_halfWidths_n a2 p1_halfWidths o_side N o_disc_n n (x5_34 + 1) r5.2.1 r5.2.2)))
def fX0_layDisc (N : Nat) (a2 : Int32) (a3 : Int32) (o_side : Int32) (o_discSize : Int32) (p1_radius : Int32) (p1_halfWidths_n : Nat) (p1_halfWidths : Nat → Int32) (o_disc_n : Nat) (o_disc : Nat → Int32) : Option RX0_layDisc :=
  ((LX0_layDisc_34 (if (a3 + p1_radius) < (o_side - 1) then (a3 + p1_radius) else (o_side - 1)) a3 p1_halfWidths_n a2 p1_halfWidths o_side N o_disc_n N (if 0 < (a3 - p1_radius) then (a3 - p1_radius) else 0) o_disc 0).bind fun r2 => some (r2.2.2, r2.2.1))
set_option maxHeartbeats 4000000 in
set_option maxRecDepth 100000 in
theorem kX0_layDisc (l : Launch) (D : va_G) (cA : Nat → ClassId) (h_o : Nat) (h_p1 : Nat) (h_p1_halfWidths : Nat) (h_o_disc : Nat) (o_side : Int32) (o_cells : Int32) (o_heights : Value) (o_targets : Value) (o_kept : Value) (o_marks : Value) (o_discSize : Int32) (p1_radius : Int32) (p1_feed : Int32) (p1_halfWidths_n : Nat) (p1_halfWidths : Nat → Int32) (o_disc_n : Nat) (o_disc : Nat → Int32) (a2 : Int32) (a3 : Int32) (N : Nat) (res : RX0_layDisc) (hf0 : fX0_layDisc N a2 a3 o_side o_discSize p1_radius p1_halfWidths_n p1_halfWidths o_disc_n o_disc = some res) : CtV l yX0_layDisc (Cond.code yX0_layDisc cX0_layDisc 9 (none) :: tblG) rmX0_layDisc D cA (wsX0_layDisc cA h_o h_p1 h_p1_halfWidths h_o_disc o_side o_cells o_heights o_targets o_kept o_marks o_discSize p1_radius p1_feed p1_halfWidths_n p1_halfWidths o_disc_n o_disc) [.ref h_o, .ref h_p1, .int a2, .int a3] (wsX0_layDisc cA h_o h_p1 h_p1_halfWidths h_o_disc o_side o_cells o_heights o_targets o_kept o_marks res.1 p1_radius p1_feed p1_halfWidths_n p1_halfWidths o_disc_n res.2) := by
  refine CtV.start (lv := [(0, .ref h_o), (1, .ref h_p1), (2, .int a2), (3, .int a3)]) (by decide) (Nat.le_of_ble_eq_true rfl) rfl (fun κ hE => ?_)
  rw [fX0_layDisc] at hf0
  refine z_aload_n 0 (pc := 0) dX0_layDisc_0 rfl ?_
  refine z_iconst (pc := 1) (v := 0) dX0_layDisc_1 (by decide) ?_
  refine z_put 0 7 (pc := 2) (ws' := (wsX0_layDisc cA h_o h_p1 h_p1_halfWidths h_o_disc o_side o_cells o_heights o_targets o_kept o_marks 0 p1_radius p1_feed p1_halfWidths_n p1_halfWidths o_disc_n o_disc)) rfl rfl inX0 tyX0 tyX0_ok nmX0 (by decide) flX0_35 rfl rfl rfl rfl (Nat.le_of_ble_eq_true rfl) dX0_layDisc_2 rfl ?_
  refine z_aload_n 0 (pc := 5) dX0_layDisc_5 rfl ?_
  refine z_get 0 0 (pc := 6) (v := .int o_side) rfl rfl inX0 (by decide) flX0_9 rfl dX0_layDisc_6 ?_
  refine z_iconst (pc := 9) (v := 1) dX0_layDisc_9 (by decide) ?_
  refine z_isub (pc := 10) dX0_layDisc_10 ?_
  refine z_iload_n 3 (pc := 11) dX0_layDisc_11 rfl ?_
  refine z_aload_n 1 (pc := 12) dX0_layDisc_12 rfl ?_
  refine z_get 1 0 (pc := 13) (v := .int p1_radius) rfl rfl inX5 (by decide) flX0_46 rfl dX0_layDisc_13 ?_
  refine z_iadd (pc := 16) dX0_layDisc_16 ?_
  refine z_mmin (pc := 17) mlX0_51 mst_min mini mcd_min (by decide) (Nat.le_of_ble_eq_true rfl) (Nat.zero_le _) (Nat.zero_le _) dX0_layDisc_17 ?_
  refine z_istore (pc := 20) (lv' := [(4, .int (if (a3 + p1_radius) < (o_side - 1) then (a3 + p1_radius) else (o_side - 1))), (0, .ref h_o), (1, .ref h_p1), (2, .int a2), (3, .int a3)]) dX0_layDisc_20 (by decide) rfl ?_
  refine z_iconst (pc := 22) (v := 0) dX0_layDisc_22 (by decide) ?_
  refine z_iload_n 4 (pc := 23) dX0_layDisc_23 rfl ?_
  refine z_aload_n 2 (pc := 24) dX0_layDisc_24 rfl ?_
  refine z_get 1 0 (pc := 25) (v := .int p1_radius) rfl rfl inX5 (by decide) flX0_46 rfl dX0_layDisc_25 ?_
  refine z_isub (pc := 28) dX0_layDisc_28 ?_
  refine z_mmax (pc := 29) mlX0_56 mst_max mini mcd_max (by decide) (Nat.le_of_ble_eq_true rfl) (Nat.zero_le _) (Nat.zero_le _) dX0_layDisc_29 ?_
  refine z_istore (pc := 32) (lv' := [(5, .int (if 0 < (a3 - p1_radius) then (a3 - p1_radius) else 0)), (4, .int (if (a3 + p1_radius) < (o_side - 1) then (a3 + p1_radius) else (o_side - 1))), (0, .ref h_o), (1, .ref h_p1), (2, .int a2), (3, .int a3)]) dX0_layDisc_32 (by decide) rfl ?_
  obtain ⟨y34, hf0_34, hf0⟩ := bp hf0
  have lp34 : ∀ (n : Nat) (x5_34 : Int32) (o_disc_34 : Nat → Int32) (o_discSize_34 : Int32), LX0_layDisc_34 (if (a3 + p1_radius) < (o_side - 1) then (a3 + p1_radius) else (o_side - 1)) a3 p1_halfWidths_n a2 p1_halfWidths o_side N o_disc_n n x5_34 o_disc_34 o_discSize_34 = some y34 → V κ l D cA rmX0_layDisc cX0_layDisc 9 RX0 (none) 0 0 34 [(4, .int (if (a3 + p1_radius) < (o_side - 1) then (a3 + p1_radius) else (o_side - 1))), (0, .ref h_o), (1, .ref h_p1), (2, .int a2), (3, .int a3), (5, .int x5_34)] [] (wsX0_layDisc cA h_o h_p1 h_p1_halfWidths h_o_disc o_side o_cells o_heights o_targets o_kept o_marks o_discSize_34 p1_radius p1_feed p1_halfWidths_n p1_halfWidths o_disc_n o_disc_34) := by
    intro n
    induction n with
    | zero => intro x5_34 o_disc_34 o_discSize_34 hf0_34; rw [LX0_layDisc_34] at hf0_34; cases hf0_34
    | succ n ih34 =>
      intro x5_34 o_disc_34 o_discSize_34 hf0_34
      rw [LX0_layDisc_34] at hf0_34
      refine z_iload 5 (pc := 34) dX0_layDisc_34 rfl ?_
      refine z_iload 0 (pc := 36) dX0_layDisc_36 rfl ?_
      refine z_icmp_gt (pc := 38) (tgt := 126) dX0_layDisc_38 (by decide) hf0_34 (fun hf0_34 => ?_) (fun hf0_34 => ?_)
      · obtain rfl := Option.some.inj hf0_34
        obtain rfl := Option.some.inj hf0
        exact z_vret hE dX0_layDisc_126
      · refine z_aload_n 2 (pc := 41) dX0_layDisc_41 rfl ?_
        refine z_get 1 2 (pc := 42) (v := .ref h_p1_halfWidths) rfl rfl inX5 (by decide) flX0_59 rfl dX0_layDisc_42 ?_
        refine z_iload 5 (pc := 45) dX0_layDisc_45 rfl ?_
        refine z_iload_n 4 (pc := 47) dX0_layDisc_47 rfl ?_
        refine z_isub (pc := 48) dX0_layDisc_48 ?_
        refine z_mabs (pc := 49) mlX0_62 mst_abs mini mcd_abs (by decide) (Nat.le_of_ble_eq_true rfl) (Nat.zero_le _) (Nat.zero_le _) dX0_layDisc_49 ?_
        refine z_iaload 2 0 (pc := 52) rfl rfl dX0_layDisc_52 hf0_34 (fun hf0_34 => ?_)
        refine z_istore (pc := 53) (lv' := [(6, .int (p1_halfWidths (if 0 ≤ (x5_34 - a3) then (x5_34 - a3) else 0 - (x5_34 - a3)).toNatClampNeg)), (4, .int (if (a3 + p1_radius) < (o_side - 1) then (a3 + p1_radius) else (o_side - 1))), (0, .ref h_o), (1, .ref h_p1), (2, .int a2), (3, .int a3), (5, .int x5_34)]) dX0_layDisc_53 (by decide) rfl ?_
        refine z_aload_n 2 (pc := 55) dX0_layDisc_55 rfl ?_
        refine z_get 0 0 (pc := 56) (v := .int o_side) rfl rfl inX0 (by decide) flX0_9 rfl dX0_layDisc_56 ?_
        refine z_iconst (pc := 59) (v := 1) dX0_layDisc_59 (by decide) ?_
        refine z_isub (pc := 60) dX0_layDisc_60 ?_
        refine z_iload_n 4 (pc := 61) dX0_layDisc_61 rfl ?_
        refine z_iload 0 (pc := 62) dX0_layDisc_62 rfl ?_
        refine z_iadd (pc := 64) dX0_layDisc_64 ?_
        refine z_mmin (pc := 65) mlX0_51 mst_min mini mcd_min (by decide) (Nat.le_of_ble_eq_true rfl) (Nat.zero_le _) (Nat.zero_le _) dX0_layDisc_65 ?_
        refine z_istore (pc := 68) (lv' := [(7, .int (if (a2 + (p1_halfWidths (if 0 ≤ (x5_34 - a3) then (x5_34 - a3) else 0 - (x5_34 - a3)).toNatClampNeg)) < (o_side - 1) then (a2 + (p1_halfWidths (if 0 ≤ (x5_34 - a3) then (x5_34 - a3) else 0 - (x5_34 - a3)).toNatClampNeg)) else (o_side - 1))), (6, .int (p1_halfWidths (if 0 ≤ (x5_34 - a3) then (x5_34 - a3) else 0 - (x5_34 - a3)).toNatClampNeg)), (4, .int (if (a3 + p1_radius) < (o_side - 1) then (a3 + p1_radius) else (o_side - 1))), (0, .ref h_o), (1, .ref h_p1), (2, .int a2), (3, .int a3), (5, .int x5_34)]) dX0_layDisc_68 (by decide) rfl ?_
        refine z_iconst (pc := 70) (v := 0) dX0_layDisc_70 (by decide) ?_
        refine z_iload_n 5 (pc := 71) dX0_layDisc_71 rfl ?_
        refine z_iload 1 (pc := 72) dX0_layDisc_72 rfl ?_
        refine z_isub (pc := 74) dX0_layDisc_74 ?_
        refine z_mmax (pc := 75) mlX0_56 mst_max mini mcd_max (by decide) (Nat.le_of_ble_eq_true rfl) (Nat.zero_le _) (Nat.zero_le _) dX0_layDisc_75 ?_
        refine z_istore (pc := 78) (lv' := [(8, .int (if 0 < (a2 - (p1_halfWidths (if 0 ≤ (x5_34 - a3) then (x5_34 - a3) else 0 - (x5_34 - a3)).toNatClampNeg)) then (a2 - (p1_halfWidths (if 0 ≤ (x5_34 - a3) then (x5_34 - a3) else 0 - (x5_34 - a3)).toNatClampNeg)) else 0)), (7, .int (if (a2 + (p1_halfWidths (if 0 ≤ (x5_34 - a3) then (x5_34 - a3) else 0 - (x5_34 - a3)).toNatClampNeg)) < (o_side - 1) then (a2 + (p1_halfWidths (if 0 ≤ (x5_34 - a3) then (x5_34 - a3) else 0 - (x5_34 - a3)).toNatClampNeg)) else (o_side - 1))), (6, .int (p1_halfWidths (if 0 ≤ (x5_34 - a3) then (x5_34 - a3) else 0 - (x5_34 - a3)).toNatClampNeg)), (4, .int (if (a3 + p1_radius) < (o_side - 1) then (a3 + p1_radius) else (o_side - 1))), (0, .ref h_o), (1, .ref h_p1), (2, .int a2), (3, .int a3), (5, .int x5_34)]) dX0_layDisc_78 (by decide) rfl ?_
        obtain ⟨y80, hf0_34_80, hf0_34⟩ := bp hf0_34
        have lp80 : ∀ (n : Nat) (x8_80 : Int32) (o_disc_80 : Nat → Int32) (o_discSize_80 : Int32), LX0_layDisc_80 (if (a2 + (p1_halfWidths (if 0 ≤ (x5_34 - a3) then (x5_34 - a3) else 0 - (x5_34 - a3)).toNatClampNeg)) < (o_side - 1) then (a2 + (p1_halfWidths (if 0 ≤ (x5_34 - a3) then (x5_34 - a3) else 0 - (x5_34 - a3)).toNatClampNeg)) else (o_side - 1)) N x5_34 o_side o_disc_n n x8_80 o_disc_80 o_discSize_80 = some y80 → V κ l D cA rmX0_layDisc cX0_layDisc 9 RX0 (none) 0 0 80 [(7, .int (if (a2 + (p1_halfWidths (if 0 ≤ (x5_34 - a3) then (x5_34 - a3) else 0 - (x5_34 - a3)).toNatClampNeg)) < (o_side - 1) then (a2 + (p1_halfWidths (if 0 ≤ (x5_34 - a3) then (x5_34 - a3) else 0 - (x5_34 - a3)).toNatClampNeg)) else (o_side - 1))), (6, .int (p1_halfWidths (if 0 ≤ (x5_34 - a3) then (x5_34 - a3) else 0 - (x5_34 - a3)).toNatClampNeg)), (4, .int (if (a3 + p1_radius) < (o_side - 1) then (a3 + p1_radius) else (o_side - 1))), (0, .ref h_o), (1, .ref h_p1), (2, .int a2), (3, .int a3), (5, .int x5_34), (8, .int x8_80)] [] (wsX0_layDisc cA h_o h_p1 h_p1_halfWidths h_o_disc o_side o_cells o_heights o_targets o_kept o_marks o_discSize_80 p1_radius p1_feed p1_halfWidths_n p1_halfWidths o_disc_n o_disc_80) := by
          intro n
          induction n with
          | zero => intro x8_80 o_disc_80 o_discSize_80 hf0_34_80; rw [LX0_layDisc_80] at hf0_34_80; cases hf0_34_80
          | succ n ih80 =>
            intro x8_80 o_disc_80 o_discSize_80 hf0_34_80
            rw [LX0_layDisc_80] at hf0_34_80
            refine z_iload 8 (pc := 80) dX0_layDisc_80 rfl ?_
            refine z_iload 0 (pc := 82) dX0_layDisc_82 rfl ?_
            refine z_icmp_gt (pc := 84) (tgt := 120) dX0_layDisc_84 (by decide) hf0_34_80 (fun hf0_34_80 => ?_) (fun hf0_34_80 => ?_)
            · obtain rfl := Option.some.inj hf0_34_80
              refine z_iinc 7 (pc := 120) (v := x5_34 + 1) (lv' := [(5, .int (x5_34 + 1)), (7, .int (if (a2 + (p1_halfWidths (if 0 ≤ (x5_34 - a3) then (x5_34 - a3) else 0 - (x5_34 - a3)).toNatClampNeg)) < (o_side - 1) then (a2 + (p1_halfWidths (if 0 ≤ (x5_34 - a3) then (x5_34 - a3) else 0 - (x5_34 - a3)).toNatClampNeg)) else (o_side - 1))), (6, .int (p1_halfWidths (if 0 ≤ (x5_34 - a3) then (x5_34 - a3) else 0 - (x5_34 - a3)).toNatClampNeg)), (4, .int (if (a3 + p1_radius) < (o_side - 1) then (a3 + p1_radius) else (o_side - 1))), (0, .ref h_o), (1, .ref h_p1), (2, .int a2), (3, .int a3), (8, .int x8_80)]) dX0_layDisc_120 rfl rfl (by decide) rfl ?_
              refine z_goto (pc := 123) (tgt := 34) dX0_layDisc_123 (by decide) ?_
              exact z_lv [3, 4, 5, 6, 7, 0] rfl (ih34 (x5_34 + 1) o_disc_80 o_discSize_80 hf0_34)
            · refine z_aload_n 3 (pc := 87) dX0_layDisc_87 rfl ?_
              refine z_get 0 6 (pc := 88) (v := .ref h_o_disc) rfl rfl inX0 (by decide) flX0_32 rfl dX0_layDisc_88 ?_
              refine z_aload_n 3 (pc := 91) dX0_layDisc_91 rfl ?_
              refine z_get 0 7 (pc := 92) (v := .int o_discSize_80) rfl rfl inX0 (by decide) flX0_35 rfl dX0_layDisc_92 ?_
              refine z_aload_n 3 (pc := 95) dX0_layDisc_95 rfl ?_
              refine z_iload 8 (pc := 96) dX0_layDisc_96 rfl ?_
              refine z_iload 7 (pc := 98) dX0_layDisc_98 rfl ?_
              obtain ⟨r6, er6, hf0_34_80⟩ := bp hf0_34_80
              refine z_calliV (pc := 100) (As := [.int x8_80, .int x5_34]) (rest := [.int o_discSize_80, .ref h_o_disc]) (ws' := (wsX0_layDisc cA h_o h_p1 h_p1_halfWidths h_o_disc o_side o_cells o_heights o_targets o_kept o_marks o_discSize_80 p1_radius p1_feed p1_halfWidths_n p1_halfWidths o_disc_n o_disc_80)) (kX0_placeOf l D cA h_o o_side o_cells o_heights o_targets o_kept o_marks (.ref h_o_disc) o_discSize_80 x8_80 x5_34 N r6 er6) ivX0_38 ⟨rfl, rfl⟩ ⟨by decide, by decide⟩ rfl ⟨Nat.zero_le _, Nat.zero_le _⟩ rfl rfl [0] rfl (by decide) rfl rfl rfl (Nat.le_of_ble_eq_true rfl) dX0_layDisc_100 ?_
              refine z_iastore 3 0 (pc := 103) (ws' := (wsX0_layDisc cA h_o h_p1 h_p1_halfWidths h_o_disc o_side o_cells o_heights o_targets o_kept o_marks o_discSize_80 p1_radius p1_feed p1_halfWidths_n p1_halfWidths o_disc_n (upd o_disc_80 o_discSize_80.toNatClampNeg r6))) rfl rfl dX0_layDisc_103 rfl hf0_34_80 (fun hf0_34_80 => ?_)
              refine z_aload_n 3 (pc := 104) dX0_layDisc_104 rfl ?_
              refine z_dup (pc := 105) dX0_layDisc_105 rfl ?_
              refine z_get 0 7 (pc := 106) (v := .int o_discSize_80) rfl rfl inX0 (by decide) flX0_35 rfl dX0_layDisc_106 ?_
              refine z_iconst (pc := 109) (v := 1) dX0_layDisc_109 (by decide) ?_
              refine z_iadd (pc := 110) dX0_layDisc_110 ?_
              refine z_put 0 7 (pc := 111) (ws' := (wsX0_layDisc cA h_o h_p1 h_p1_halfWidths h_o_disc o_side o_cells o_heights o_targets o_kept o_marks (o_discSize_80 + 1) p1_radius p1_feed p1_halfWidths_n p1_halfWidths o_disc_n (upd o_disc_80 o_discSize_80.toNatClampNeg r6))) rfl rfl inX0 tyX0 tyX0_ok nmX0 (by decide) flX0_35 rfl rfl rfl rfl (Nat.le_of_ble_eq_true rfl) dX0_layDisc_111 rfl ?_
              refine z_iinc 8 (pc := 114) (v := x8_80 + 1) (lv' := [(8, .int (x8_80 + 1)), (7, .int (if (a2 + (p1_halfWidths (if 0 ≤ (x5_34 - a3) then (x5_34 - a3) else 0 - (x5_34 - a3)).toNatClampNeg)) < (o_side - 1) then (a2 + (p1_halfWidths (if 0 ≤ (x5_34 - a3) then (x5_34 - a3) else 0 - (x5_34 - a3)).toNatClampNeg)) else (o_side - 1))), (6, .int (p1_halfWidths (if 0 ≤ (x5_34 - a3) then (x5_34 - a3) else 0 - (x5_34 - a3)).toNatClampNeg)), (4, .int (if (a3 + p1_radius) < (o_side - 1) then (a3 + p1_radius) else (o_side - 1))), (0, .ref h_o), (1, .ref h_p1), (2, .int a2), (3, .int a3), (5, .int x5_34)]) dX0_layDisc_114 rfl rfl (by decide) rfl ?_
              refine z_goto (pc := 117) (tgt := 80) dX0_layDisc_117 (by decide) ?_
              exact z_lv [1, 2, 3, 4, 5, 6, 7, 8, 0] rfl (ih80 (x8_80 + 1) (upd o_disc_80 o_discSize_80.toNatClampNeg r6) (o_discSize_80 + 1) hf0_34_80)
        exact z_lv [1, 2, 3, 4, 5, 6, 7, 8, 0] rfl (lp80 N (if 0 < (a2 - (p1_halfWidths (if 0 ≤ (x5_34 - a3) then (x5_34 - a3) else 0 - (x5_34 - a3)).toNatClampNeg)) then (a2 - (p1_halfWidths (if 0 ≤ (x5_34 - a3) then (x5_34 - a3) else 0 - (x5_34 - a3)).toNatClampNeg)) else 0) o_disc_34 o_discSize_34 hf0_34_80)
  exact z_lv [1, 2, 3, 4, 5, 0] rfl (lp34 N (if 0 < (a3 - p1_radius) then (a3 - p1_radius) else 0) o_disc 0 hf0_34)

abbrev RX0_discRisesAbove : Type := Int32
abbrev rmX0_discRisesAbove : Room := { frames := 0, cells := 0, slots := 0, locals := 0 }
abbrev wsX0_discRisesAbove (cA : Nat → ClassId) (h_o : Nat) (h_o_heights : Nat) (h_o_disc : Nat) (o_side : Int32) (o_cells : Int32) (o_targets : Value) (o_kept : Value) (o_marks : Value) (o_discSize : Int32) (o_heights_n : Nat) (o_heights : Nat → Int32) (o_disc_n : Nat) (o_disc : Nat → Int32) : va_W := [(h_o, .inr (0, [.int o_side, .int o_cells, .ref h_o_heights, o_targets, o_kept, o_marks, .ref h_o_disc, .int o_discSize])), (h_o_heights, .inl (cA 0, o_heights_n, .inl o_heights)), (h_o_disc, .inl (cA 0, o_disc_n, .inl o_disc))]
def LX0_discRisesAbove_2 (o_discSize : Int32) (o_disc_n : Nat) (o_disc : Nat → Int32) (o_heights_n : Nat) (o_heights : Nat → Int32) (a1 : Int32) : Nat → Int32 → Option (RX0_discRisesAbove)
  | 0, _ => none
  | n + 1, x2_2 => (if o_discSize ≤ x2_2 then some 0 else (if x2_2 < 0 ∨ o_disc_n ≤ x2_2.toNatClampNeg then none else (if (o_disc x2_2.toNatClampNeg) < 0 ∨ o_heights_n ≤ (o_disc x2_2.toNatClampNeg).toNatClampNeg then none else (if (o_heights (o_disc x2_2.toNatClampNeg).toNatClampNeg) ≤ a1 then LX0_discRisesAbove_2 o_discSize o_disc_n o_disc o_heights_n o_heights a1 n (x2_2 + 1) else some 1))))
def fX0_discRisesAbove (N : Nat) (a1 : Int32) (o_discSize : Int32) (o_heights_n : Nat) (o_heights : Nat → Int32) (o_disc_n : Nat) (o_disc : Nat → Int32) : Option RX0_discRisesAbove :=
  LX0_discRisesAbove_2 o_discSize o_disc_n o_disc o_heights_n o_heights a1 N 0
set_option maxHeartbeats 4000000 in
set_option maxRecDepth 100000 in
theorem kX0_discRisesAbove (l : Launch) (D : va_G) (cA : Nat → ClassId) (h_o : Nat) (h_o_heights : Nat) (h_o_disc : Nat) (o_side : Int32) (o_cells : Int32) (o_targets : Value) (o_kept : Value) (o_marks : Value) (o_discSize : Int32) (o_heights_n : Nat) (o_heights : Nat → Int32) (o_disc_n : Nat) (o_disc : Nat → Int32) (a1 : Int32) (N : Nat) (res : RX0_discRisesAbove) (hf0 : fX0_discRisesAbove N a1 o_discSize o_heights_n o_heights o_disc_n o_disc = some res) : CtI l yX0_discRisesAbove (Cond.code yX0_discRisesAbove cX0_discRisesAbove 3 (some .boolean) :: tblG) rmX0_discRisesAbove D cA (wsX0_discRisesAbove cA h_o h_o_heights h_o_disc o_side o_cells o_targets o_kept o_marks o_discSize o_heights_n o_heights o_disc_n o_disc) [.ref h_o, .int a1] res (wsX0_discRisesAbove cA h_o h_o_heights h_o_disc o_side o_cells o_targets o_kept o_marks o_discSize o_heights_n o_heights o_disc_n o_disc) := by
  refine CtI.start (lv := [(0, .ref h_o), (1, .int a1)]) (by decide) (Nat.le_of_ble_eq_true rfl) rfl (fun κ hE => ?_)
  rw [fX0_discRisesAbove] at hf0
  refine z_iconst (pc := 0) (v := 0) dX0_discRisesAbove_0 (by decide) ?_
  refine z_istore_n (pc := 1) (lv' := [(2, .int 0), (0, .ref h_o), (1, .int a1)]) dX0_discRisesAbove_1 (by decide) rfl ?_
  have lp2 : ∀ (n : Nat) (x2_2 : Int32), LX0_discRisesAbove_2 o_discSize o_disc_n o_disc o_heights_n o_heights a1 n x2_2 = some res → V κ l D cA rmX0_discRisesAbove cX0_discRisesAbove 3 RX0 (some .boolean) 0 0 2 [(0, .ref h_o), (1, .int a1), (2, .int x2_2)] [] (wsX0_discRisesAbove cA h_o h_o_heights h_o_disc o_side o_cells o_targets o_kept o_marks o_discSize o_heights_n o_heights o_disc_n o_disc) := by
    intro n
    induction n with
    | zero => intro x2_2 hf0; rw [LX0_discRisesAbove_2] at hf0; cases hf0
    | succ n ih2 =>
      intro x2_2 hf0
      rw [LX0_discRisesAbove_2] at hf0
      refine z_iload_n 2 (pc := 2) dX0_discRisesAbove_2 rfl ?_
      refine z_aload_n 0 (pc := 3) dX0_discRisesAbove_3 rfl ?_
      refine z_get 0 7 (pc := 4) (v := .int o_discSize) rfl rfl inX0 (by decide) flX0_35 rfl dX0_discRisesAbove_4 ?_
      refine z_icmp_ge (pc := 7) (tgt := 33) dX0_discRisesAbove_7 (by decide) hf0 (fun hf0 => ?_) (fun hf0 => ?_)
      · refine z_iconst (pc := 33) (v := 0) dX0_discRisesAbove_33 (by decide) ?_
        obtain rfl := Option.some.inj hf0
        exact z_zretL (by decide) hE dX0_discRisesAbove_34
      · refine z_aload_n 0 (pc := 10) dX0_discRisesAbove_10 rfl ?_
        refine z_get 0 2 (pc := 11) (v := .ref h_o_heights) rfl rfl inX0 (by decide) flX0_18 rfl dX0_discRisesAbove_11 ?_
        refine z_aload_n 0 (pc := 14) dX0_discRisesAbove_14 rfl ?_
        refine z_get 0 6 (pc := 15) (v := .ref h_o_disc) rfl rfl inX0 (by decide) flX0_32 rfl dX0_discRisesAbove_15 ?_
        refine z_iload_n 2 (pc := 18) dX0_discRisesAbove_18 rfl ?_
        refine z_iaload 2 0 (pc := 19) rfl rfl dX0_discRisesAbove_19 hf0 (fun hf0 => ?_)
        refine z_iaload 1 0 (pc := 20) rfl rfl dX0_discRisesAbove_20 hf0 (fun hf0 => ?_)
        refine z_iload_n 1 (pc := 21) dX0_discRisesAbove_21 rfl ?_
        refine z_icmp_le (pc := 22) (tgt := 27) dX0_discRisesAbove_22 (by decide) hf0 (fun hf0 => ?_) (fun hf0 => ?_)
        · refine z_iinc 2 (pc := 27) (v := x2_2 + 1) (lv' := [(2, .int (x2_2 + 1)), (0, .ref h_o), (1, .int a1)]) dX0_discRisesAbove_27 rfl rfl (by decide) rfl ?_
          refine z_goto (pc := 30) (tgt := 2) dX0_discRisesAbove_30 (by decide) ?_
          exact z_lv [1, 2, 0] rfl (ih2 (x2_2 + 1) hf0)
        · refine z_iconst (pc := 25) (v := 1) dX0_discRisesAbove_25 (by decide) ?_
          obtain rfl := Option.some.inj hf0
          exact z_zretL (by decide) hE dX0_discRisesAbove_26
  exact z_lv [1, 2, 0] rfl (lp2 N 0 hf0)

abbrev RX0_discHasKeptAbove : Type := Int32
abbrev rmX0_discHasKeptAbove : Room := { frames := 0, cells := 0, slots := 0, locals := 0 }
abbrev wsX0_discHasKeptAbove (cA : Nat → ClassId) (h_o : Nat) (h_o_kept : Nat) (h_o_disc : Nat) (h_o_heights : Nat) (o_side : Int32) (o_cells : Int32) (o_targets : Value) (o_marks : Value) (o_discSize : Int32) (o_kept_n : Nat) (o_kept : Nat → Int32) (o_disc_n : Nat) (o_disc : Nat → Int32) (o_heights_n : Nat) (o_heights : Nat → Int32) : va_W := [(h_o, .inr (0, [.int o_side, .int o_cells, .ref h_o_heights, o_targets, .ref h_o_kept, o_marks, .ref h_o_disc, .int o_discSize])), (h_o_kept, .inl (cA 1, o_kept_n, .inl o_kept)), (h_o_disc, .inl (cA 0, o_disc_n, .inl o_disc)), (h_o_heights, .inl (cA 0, o_heights_n, .inl o_heights))]
def LX0_discHasKeptAbove_2 (o_discSize : Int32) (o_disc_n : Nat) (o_disc : Nat → Int32) (o_kept_n : Nat) (o_kept : Nat → Int32) (o_heights_n : Nat) (o_heights : Nat → Int32) (a1 : Int32) : Nat → Int32 → Option (RX0_discHasKeptAbove)
  | 0, _ => none
  | n + 1, x2_2 => (if o_discSize ≤ x2_2 then some 0 else (if x2_2 < 0 ∨ o_disc_n ≤ x2_2.toNatClampNeg then none else (if (o_disc x2_2.toNatClampNeg) < 0 ∨ o_kept_n ≤ (o_disc x2_2.toNatClampNeg).toNatClampNeg then none else (if (o_kept (o_disc x2_2.toNatClampNeg).toNatClampNeg) = 0 then LX0_discHasKeptAbove_2 o_discSize o_disc_n o_disc o_kept_n o_kept o_heights_n o_heights a1 n (x2_2 + 1) else (if x2_2 < 0 ∨ o_disc_n ≤ x2_2.toNatClampNeg then none else (if (o_disc x2_2.toNatClampNeg) < 0 ∨ o_heights_n ≤ (o_disc x2_2.toNatClampNeg).toNatClampNeg then none else (if (o_heights (o_disc x2_2.toNatClampNeg).toNatClampNeg) ≤ a1 then LX0_discHasKeptAbove_2 o_discSize o_disc_n o_disc o_kept_n o_kept o_heights_n o_heights a1 n (x2_2 + 1) else some 1)))))))
def fX0_discHasKeptAbove (N : Nat) (a1 : Int32) (o_discSize : Int32) (o_kept_n : Nat) (o_kept : Nat → Int32) (o_disc_n : Nat) (o_disc : Nat → Int32) (o_heights_n : Nat) (o_heights : Nat → Int32) : Option RX0_discHasKeptAbove :=
  LX0_discHasKeptAbove_2 o_discSize o_disc_n o_disc o_kept_n o_kept o_heights_n o_heights a1 N 0
set_option maxHeartbeats 4000000 in
set_option maxRecDepth 100000 in
theorem kX0_discHasKeptAbove (l : Launch) (D : va_G) (cA : Nat → ClassId) (h_o : Nat) (h_o_kept : Nat) (h_o_disc : Nat) (h_o_heights : Nat) (o_side : Int32) (o_cells : Int32) (o_targets : Value) (o_marks : Value) (o_discSize : Int32) (o_kept_n : Nat) (o_kept : Nat → Int32) (o_disc_n : Nat) (o_disc : Nat → Int32) (o_heights_n : Nat) (o_heights : Nat → Int32) (a1 : Int32) (N : Nat) (res : RX0_discHasKeptAbove) (hf0 : fX0_discHasKeptAbove N a1 o_discSize o_kept_n o_kept o_disc_n o_disc o_heights_n o_heights = some res) : CtI l yX0_discHasKeptAbove (Cond.code yX0_discHasKeptAbove cX0_discHasKeptAbove 3 (some .boolean) :: tblG) rmX0_discHasKeptAbove D cA (wsX0_discHasKeptAbove cA h_o h_o_kept h_o_disc h_o_heights o_side o_cells o_targets o_marks o_discSize o_kept_n o_kept o_disc_n o_disc o_heights_n o_heights) [.ref h_o, .int a1] res (wsX0_discHasKeptAbove cA h_o h_o_kept h_o_disc h_o_heights o_side o_cells o_targets o_marks o_discSize o_kept_n o_kept o_disc_n o_disc o_heights_n o_heights) := by
  refine CtI.start (lv := [(0, .ref h_o), (1, .int a1)]) (by decide) (Nat.le_of_ble_eq_true rfl) rfl (fun κ hE => ?_)
  rw [fX0_discHasKeptAbove] at hf0
  refine z_iconst (pc := 0) (v := 0) dX0_discHasKeptAbove_0 (by decide) ?_
  refine z_istore_n (pc := 1) (lv' := [(2, .int 0), (0, .ref h_o), (1, .int a1)]) dX0_discHasKeptAbove_1 (by decide) rfl ?_
  have lp2 : ∀ (n : Nat) (x2_2 : Int32), LX0_discHasKeptAbove_2 o_discSize o_disc_n o_disc o_kept_n o_kept o_heights_n o_heights a1 n x2_2 = some res → V κ l D cA rmX0_discHasKeptAbove cX0_discHasKeptAbove 3 RX0 (some .boolean) 0 0 2 [(0, .ref h_o), (1, .int a1), (2, .int x2_2)] [] (wsX0_discHasKeptAbove cA h_o h_o_kept h_o_disc h_o_heights o_side o_cells o_targets o_marks o_discSize o_kept_n o_kept o_disc_n o_disc o_heights_n o_heights) := by
    intro n
    induction n with
    | zero => intro x2_2 hf0; rw [LX0_discHasKeptAbove_2] at hf0; cases hf0
    | succ n ih2 =>
      intro x2_2 hf0
      rw [LX0_discHasKeptAbove_2] at hf0
      refine z_iload_n 2 (pc := 2) dX0_discHasKeptAbove_2 rfl ?_
      refine z_aload_n 0 (pc := 3) dX0_discHasKeptAbove_3 rfl ?_
      refine z_get 0 7 (pc := 4) (v := .int o_discSize) rfl rfl inX0 (by decide) flX0_35 rfl dX0_discHasKeptAbove_4 ?_
      refine z_icmp_ge (pc := 7) (tgt := 47) dX0_discHasKeptAbove_7 (by decide) hf0 (fun hf0 => ?_) (fun hf0 => ?_)
      · refine z_iconst (pc := 47) (v := 0) dX0_discHasKeptAbove_47 (by decide) ?_
        obtain rfl := Option.some.inj hf0
        exact z_zretL (by decide) hE dX0_discHasKeptAbove_48
      · refine z_aload_n 0 (pc := 10) dX0_discHasKeptAbove_10 rfl ?_
        refine z_get 0 4 (pc := 11) (v := .ref h_o_kept) rfl rfl inX0 (by decide) flX0_25 rfl dX0_discHasKeptAbove_11 ?_
        refine z_aload_n 0 (pc := 14) dX0_discHasKeptAbove_14 rfl ?_
        refine z_get 0 6 (pc := 15) (v := .ref h_o_disc) rfl rfl inX0 (by decide) flX0_32 rfl dX0_discHasKeptAbove_15 ?_
        refine z_iload_n 2 (pc := 18) dX0_discHasKeptAbove_18 rfl ?_
        refine z_iaload 2 0 (pc := 19) rfl rfl dX0_discHasKeptAbove_19 hf0 (fun hf0 => ?_)
        refine z_zaload 1 1 (pc := 20) rfl rfl dX0_discHasKeptAbove_20 hf0 (fun hf0 => ?_)
        refine z_if_eq (pc := 21) (tgt := 41) dX0_discHasKeptAbove_21 (by decide) hf0 (fun hf0 => ?_) (fun hf0 => ?_)
        · refine z_iinc 2 (pc := 41) (v := x2_2 + 1) (lv' := [(2, .int (x2_2 + 1)), (0, .ref h_o), (1, .int a1)]) dX0_discHasKeptAbove_41 rfl rfl (by decide) rfl ?_
          refine z_goto (pc := 44) (tgt := 2) dX0_discHasKeptAbove_44 (by decide) ?_
          exact z_lv [1, 2, 0] rfl (ih2 (x2_2 + 1) hf0)
        · refine z_aload_n 0 (pc := 24) dX0_discHasKeptAbove_24 rfl ?_
          refine z_get 0 2 (pc := 25) (v := .ref h_o_heights) rfl rfl inX0 (by decide) flX0_18 rfl dX0_discHasKeptAbove_25 ?_
          refine z_aload_n 0 (pc := 28) dX0_discHasKeptAbove_28 rfl ?_
          refine z_get 0 6 (pc := 29) (v := .ref h_o_disc) rfl rfl inX0 (by decide) flX0_32 rfl dX0_discHasKeptAbove_29 ?_
          refine z_iload_n 2 (pc := 32) dX0_discHasKeptAbove_32 rfl ?_
          refine z_iaload 2 0 (pc := 33) rfl rfl dX0_discHasKeptAbove_33 hf0 (fun hf0 => ?_)
          refine z_iaload 3 0 (pc := 34) rfl rfl dX0_discHasKeptAbove_34 hf0 (fun hf0 => ?_)
          refine z_iload_n 1 (pc := 35) dX0_discHasKeptAbove_35 rfl ?_
          refine z_icmp_le (pc := 36) (tgt := 41) dX0_discHasKeptAbove_36 (by decide) hf0 (fun hf0 => ?_) (fun hf0 => ?_)
          · refine z_iinc 2 (pc := 41) (v := x2_2 + 1) (lv' := [(2, .int (x2_2 + 1)), (0, .ref h_o), (1, .int a1)]) dX0_discHasKeptAbove_41 rfl rfl (by decide) rfl ?_
            refine z_goto (pc := 44) (tgt := 2) dX0_discHasKeptAbove_44 (by decide) ?_
            exact z_lv [1, 2, 0] rfl (ih2 (x2_2 + 1) hf0)
          · refine z_iconst (pc := 39) (v := 1) dX0_discHasKeptAbove_39 (by decide) ?_
            obtain rfl := Option.some.inj hf0
            exact z_zretL (by decide) hE dX0_discHasKeptAbove_40
  exact z_lv [1, 2, 0] rfl (lp2 N 0 hf0)

abbrev RX0_lowerDisc : Type := Int32 × (Nat → Int32)
abbrev rmX0_lowerDisc : Room := { frames := 0, cells := 0, slots := 0, locals := 0 }
abbrev wsX0_lowerDisc (cA : Nat → ClassId) (h_o : Nat) (h_o_heights : Nat) (h_o_disc : Nat) (o_side : Int32) (o_cells : Int32) (o_targets : Value) (o_kept : Value) (o_marks : Value) (o_discSize : Int32) (o_heights_n : Nat) (o_heights : Nat → Int32) (o_disc_n : Nat) (o_disc : Nat → Int32) : va_W := [(h_o, .inr (0, [.int o_side, .int o_cells, .ref h_o_heights, o_targets, o_kept, o_marks, .ref h_o_disc, .int o_discSize])), (h_o_heights, .inl (cA 0, o_heights_n, .inl o_heights)), (h_o_disc, .inl (cA 0, o_disc_n, .inl o_disc))]
def LX0_lowerDisc_4 (o_discSize : Int32) (o_disc_n : Nat) (o_disc : Nat → Int32) (o_heights_n : Nat) (a1 : Int32) : Nat → Int32 → Int32 → (Nat → Int32) → Option (Int32 × Int32 × (Nat → Int32))
  | 0, _, _, _ => none
  | n + 1, x2_4, x3_4, o_heights_4 => (if o_discSize ≤ x3_4 then some (x2_4, x3_4, o_heights_4) else (if x3_4 < 0 ∨ o_disc_n ≤ x3_4.toNatClampNeg then none else (if (o_disc x3_4.toNatClampNeg) < 0 ∨ o_heights_n ≤ (o_disc x3_4.toNatClampNeg).toNatClampNeg then none else (if (o_heights_4 (o_disc x3_4.toNatClampNeg).toNatClampNeg) ≤ a1 then LX0_lowerDisc_4 o_discSize o_disc_n o_disc o_heights_n a1 n x2_4 (x3_4 + 1) o_heights_4 else (if x3_4 < 0 ∨ o_disc_n ≤ x3_4.toNatClampNeg then none else (if (o_disc x3_4.toNatClampNeg) < 0 ∨ o_heights_n ≤ (o_disc x3_4.toNatClampNeg).toNatClampNeg then none else LX0_lowerDisc_4 o_discSize o_disc_n o_disc o_heights_n a1 n (x2_4 + 1) (x3_4 + 1) (upd o_heights_4 (o_disc x3_4.toNatClampNeg).toNatClampNeg a1)))))))
def fX0_lowerDisc (N : Nat) (a1 : Int32) (o_discSize : Int32) (o_heights_n : Nat) (o_heights : Nat → Int32) (o_disc_n : Nat) (o_disc : Nat → Int32) : Option RX0_lowerDisc :=
  ((LX0_lowerDisc_4 o_discSize o_disc_n o_disc o_heights_n a1 N 0 0 o_heights).bind fun r1 => some (r1.1, r1.2.2))
set_option maxHeartbeats 4000000 in
set_option maxRecDepth 100000 in
theorem kX0_lowerDisc (l : Launch) (D : va_G) (cA : Nat → ClassId) (h_o : Nat) (h_o_heights : Nat) (h_o_disc : Nat) (o_side : Int32) (o_cells : Int32) (o_targets : Value) (o_kept : Value) (o_marks : Value) (o_discSize : Int32) (o_heights_n : Nat) (o_heights : Nat → Int32) (o_disc_n : Nat) (o_disc : Nat → Int32) (a1 : Int32) (N : Nat) (res : RX0_lowerDisc) (hf0 : fX0_lowerDisc N a1 o_discSize o_heights_n o_heights o_disc_n o_disc = some res) : CtI l yX0_lowerDisc (Cond.code yX0_lowerDisc cX0_lowerDisc 4 (some .int) :: tblG) rmX0_lowerDisc D cA (wsX0_lowerDisc cA h_o h_o_heights h_o_disc o_side o_cells o_targets o_kept o_marks o_discSize o_heights_n o_heights o_disc_n o_disc) [.ref h_o, .int a1] res.1 (wsX0_lowerDisc cA h_o h_o_heights h_o_disc o_side o_cells o_targets o_kept o_marks o_discSize o_heights_n res.2 o_disc_n o_disc) := by
  refine CtI.start (lv := [(0, .ref h_o), (1, .int a1)]) (by decide) (Nat.le_of_ble_eq_true rfl) rfl (fun κ hE => ?_)
  rw [fX0_lowerDisc] at hf0
  refine z_iconst (pc := 0) (v := 0) dX0_lowerDisc_0 (by decide) ?_
  refine z_istore_n (pc := 1) (lv' := [(2, .int 0), (0, .ref h_o), (1, .int a1)]) dX0_lowerDisc_1 (by decide) rfl ?_
  refine z_iconst (pc := 2) (v := 0) dX0_lowerDisc_2 (by decide) ?_
  refine z_istore_n (pc := 3) (lv' := [(3, .int 0), (2, .int 0), (0, .ref h_o), (1, .int a1)]) dX0_lowerDisc_3 (by decide) rfl ?_
  obtain ⟨y4, hf0_4, hf0⟩ := bp hf0
  have lp4 : ∀ (n : Nat) (x2_4 : Int32) (x3_4 : Int32) (o_heights_4 : Nat → Int32), LX0_lowerDisc_4 o_discSize o_disc_n o_disc o_heights_n a1 n x2_4 x3_4 o_heights_4 = some y4 → V κ l D cA rmX0_lowerDisc cX0_lowerDisc 4 RX0 (some .int) 0 0 4 [(0, .ref h_o), (1, .int a1), (2, .int x2_4), (3, .int x3_4)] [] (wsX0_lowerDisc cA h_o h_o_heights h_o_disc o_side o_cells o_targets o_kept o_marks o_discSize o_heights_n o_heights_4 o_disc_n o_disc) := by
    intro n
    induction n with
    | zero => intro x2_4 x3_4 o_heights_4 hf0_4; rw [LX0_lowerDisc_4] at hf0_4; cases hf0_4
    | succ n ih4 =>
      intro x2_4 x3_4 o_heights_4 hf0_4
      rw [LX0_lowerDisc_4] at hf0_4
      refine z_iload_n 3 (pc := 4) dX0_lowerDisc_4 rfl ?_
      refine z_aload_n 0 (pc := 5) dX0_lowerDisc_5 rfl ?_
      refine z_get 0 7 (pc := 6) (v := .int o_discSize) rfl rfl inX0 (by decide) flX0_35 rfl dX0_lowerDisc_6 ?_
      refine z_icmp_ge (pc := 9) (tgt := 48) dX0_lowerDisc_9 (by decide) hf0_4 (fun hf0_4 => ?_) (fun hf0_4 => ?_)
      · obtain rfl := Option.some.inj hf0_4
        refine z_iload_n 2 (pc := 48) dX0_lowerDisc_48 rfl ?_
        obtain rfl := Option.some.inj hf0
        exact z_iret hE dX0_lowerDisc_49
      · refine z_aload_n 0 (pc := 12) dX0_lowerDisc_12 rfl ?_
        refine z_get 0 2 (pc := 13) (v := .ref h_o_heights) rfl rfl inX0 (by decide) flX0_18 rfl dX0_lowerDisc_13 ?_
        refine z_aload_n 0 (pc := 16) dX0_lowerDisc_16 rfl ?_
        refine z_get 0 6 (pc := 17) (v := .ref h_o_disc) rfl rfl inX0 (by decide) flX0_32 rfl dX0_lowerDisc_17 ?_
        refine z_iload_n 3 (pc := 20) dX0_lowerDisc_20 rfl ?_
        refine z_iaload 2 0 (pc := 21) rfl rfl dX0_lowerDisc_21 hf0_4 (fun hf0_4 => ?_)
        refine z_iaload 1 0 (pc := 22) rfl rfl dX0_lowerDisc_22 hf0_4 (fun hf0_4 => ?_)
        refine z_iload_n 1 (pc := 23) dX0_lowerDisc_23 rfl ?_
        refine z_icmp_le (pc := 24) (tgt := 42) dX0_lowerDisc_24 (by decide) hf0_4 (fun hf0_4 => ?_) (fun hf0_4 => ?_)
        · refine z_iinc 3 (pc := 42) (v := x3_4 + 1) (lv' := [(3, .int (x3_4 + 1)), (0, .ref h_o), (1, .int a1), (2, .int x2_4)]) dX0_lowerDisc_42 rfl rfl (by decide) rfl ?_
          refine z_goto (pc := 45) (tgt := 4) dX0_lowerDisc_45 (by decide) ?_
          exact z_lv [1, 2, 3, 0] rfl (ih4 x2_4 (x3_4 + 1) o_heights_4 hf0_4)
        · refine z_aload_n 0 (pc := 27) dX0_lowerDisc_27 rfl ?_
          refine z_get 0 2 (pc := 28) (v := .ref h_o_heights) rfl rfl inX0 (by decide) flX0_18 rfl dX0_lowerDisc_28 ?_
          refine z_aload_n 0 (pc := 31) dX0_lowerDisc_31 rfl ?_
          refine z_get 0 6 (pc := 32) (v := .ref h_o_disc) rfl rfl inX0 (by decide) flX0_32 rfl dX0_lowerDisc_32 ?_
          refine z_iload_n 3 (pc := 35) dX0_lowerDisc_35 rfl ?_
          refine z_iaload 2 0 (pc := 36) rfl rfl dX0_lowerDisc_36 hf0_4 (fun hf0_4 => ?_)
          refine z_iload_n 1 (pc := 37) dX0_lowerDisc_37 rfl ?_
          refine z_iastore 1 0 (pc := 38) (ws' := (wsX0_lowerDisc cA h_o h_o_heights h_o_disc o_side o_cells o_targets o_kept o_marks o_discSize o_heights_n (upd o_heights_4 (o_disc x3_4.toNatClampNeg).toNatClampNeg a1) o_disc_n o_disc)) rfl rfl dX0_lowerDisc_38 rfl hf0_4 (fun hf0_4 => ?_)
          refine z_iinc 2 (pc := 39) (v := x2_4 + 1) (lv' := [(2, .int (x2_4 + 1)), (0, .ref h_o), (1, .int a1), (3, .int x3_4)]) dX0_lowerDisc_39 rfl rfl (by decide) rfl ?_
          refine z_iinc 3 (pc := 42) (v := x3_4 + 1) (lv' := [(3, .int (x3_4 + 1)), (2, .int (x2_4 + 1)), (0, .ref h_o), (1, .int a1)]) dX0_lowerDisc_42 rfl rfl (by decide) rfl ?_
          refine z_goto (pc := 45) (tgt := 4) dX0_lowerDisc_45 (by decide) ?_
          exact z_lv [2, 3, 1, 0] rfl (ih4 (x2_4 + 1) (x3_4 + 1) (upd o_heights_4 (o_disc x3_4.toNatClampNeg).toNatClampNeg a1) hf0_4)
  exact z_lv [2, 3, 1, 0] rfl (lp4 N 0 0 o_heights hf0_4)

abbrev RX0_highestTargetInDisc : Type := Int32
abbrev rmX0_highestTargetInDisc : Room := { frames := 1, cells := 0, slots := 0, locals := 21 }
abbrev wsX0_highestTargetInDisc (cA : Nat → ClassId) (h_o : Nat) (h_o_targets : Nat) (h_o_disc : Nat) (o_side : Int32) (o_cells : Int32) (o_heights : Value) (o_kept : Value) (o_marks : Value) (o_discSize : Int32) (o_targets_n : Nat) (o_targets : Nat → Int32) (o_disc_n : Nat) (o_disc : Nat → Int32) : va_W := [(h_o, .inr (0, [.int o_side, .int o_cells, o_heights, .ref h_o_targets, o_kept, o_marks, .ref h_o_disc, .int o_discSize])), (h_o_targets, .inl (cA 0, o_targets_n, .inl o_targets)), (h_o_disc, .inl (cA 0, o_disc_n, .inl o_disc))]
def LX0_highestTargetInDisc_4 (o_discSize : Int32) (o_disc_n : Nat) (o_disc : Nat → Int32) (o_targets_n : Nat) (o_targets : Nat → Int32) : Nat → Int32 → Int32 → Option (Int32 × Int32)
  | 0, _, _ => none
  | n + 1, x1_4, x2_4 => (if o_discSize ≤ x2_4 then some (x1_4, x2_4) else (if x2_4 < 0 ∨ o_disc_n ≤ x2_4.toNatClampNeg then none else (if (o_disc x2_4.toNatClampNeg) < 0 ∨ o_targets_n ≤ (o_disc x2_4.toNatClampNeg).toNatClampNeg then none else LX0_highestTargetInDisc_4 o_discSize o_disc_n o_disc o_targets_n o_targets n (if x1_4 < (o_targets (o_disc x2_4.toNatClampNeg).toNatClampNeg) then (o_targets (o_disc x2_4.toNatClampNeg).toNatClampNeg) else x1_4) (x2_4 + 1))))
def fX0_highestTargetInDisc (N : Nat)  (o_discSize : Int32) (o_targets_n : Nat) (o_targets : Nat → Int32) (o_disc_n : Nat) (o_disc : Nat → Int32) : Option RX0_highestTargetInDisc :=
  ((LX0_highestTargetInDisc_4 o_discSize o_disc_n o_disc o_targets_n o_targets N 0 0).bind fun r1 => some r1.1)
set_option maxHeartbeats 4000000 in
set_option maxRecDepth 100000 in
theorem kX0_highestTargetInDisc (l : Launch) (D : va_G) (cA : Nat → ClassId) (h_o : Nat) (h_o_targets : Nat) (h_o_disc : Nat) (o_side : Int32) (o_cells : Int32) (o_heights : Value) (o_kept : Value) (o_marks : Value) (o_discSize : Int32) (o_targets_n : Nat) (o_targets : Nat → Int32) (o_disc_n : Nat) (o_disc : Nat → Int32)  (N : Nat) (res : RX0_highestTargetInDisc) (hf0 : fX0_highestTargetInDisc N o_discSize o_targets_n o_targets o_disc_n o_disc = some res) : CtI l yX0_highestTargetInDisc (Cond.code yX0_highestTargetInDisc cX0_highestTargetInDisc 3 (some .int) :: tblG) rmX0_highestTargetInDisc D cA (wsX0_highestTargetInDisc cA h_o h_o_targets h_o_disc o_side o_cells o_heights o_kept o_marks o_discSize o_targets_n o_targets o_disc_n o_disc) [.ref h_o] res (wsX0_highestTargetInDisc cA h_o h_o_targets h_o_disc o_side o_cells o_heights o_kept o_marks o_discSize o_targets_n o_targets o_disc_n o_disc) := by
  refine CtI.start (lv := [(0, .ref h_o)]) (by decide) (Nat.le_of_ble_eq_true rfl) rfl (fun κ hE => ?_)
  rw [fX0_highestTargetInDisc] at hf0
  refine z_iconst (pc := 0) (v := 0) dX0_highestTargetInDisc_0 (by decide) ?_
  refine z_istore_n (pc := 1) (lv' := [(1, .int 0), (0, .ref h_o)]) dX0_highestTargetInDisc_1 (by decide) rfl ?_
  refine z_iconst (pc := 2) (v := 0) dX0_highestTargetInDisc_2 (by decide) ?_
  refine z_istore_n (pc := 3) (lv' := [(2, .int 0), (1, .int 0), (0, .ref h_o)]) dX0_highestTargetInDisc_3 (by decide) rfl ?_
  obtain ⟨y4, hf0_4, hf0⟩ := bp hf0
  have lp4 : ∀ (n : Nat) (x1_4 : Int32) (x2_4 : Int32), LX0_highestTargetInDisc_4 o_discSize o_disc_n o_disc o_targets_n o_targets n x1_4 x2_4 = some y4 → V κ l D cA rmX0_highestTargetInDisc cX0_highestTargetInDisc 3 RX0 (some .int) 0 0 4 [(0, .ref h_o), (1, .int x1_4), (2, .int x2_4)] [] (wsX0_highestTargetInDisc cA h_o h_o_targets h_o_disc o_side o_cells o_heights o_kept o_marks o_discSize o_targets_n o_targets o_disc_n o_disc) := by
    intro n
    induction n with
    | zero => intro x1_4 x2_4 hf0_4; rw [LX0_highestTargetInDisc_4] at hf0_4; cases hf0_4
    | succ n ih4 =>
      intro x1_4 x2_4 hf0_4
      rw [LX0_highestTargetInDisc_4] at hf0_4
      refine z_iload_n 2 (pc := 4) dX0_highestTargetInDisc_4 rfl ?_
      refine z_aload_n 0 (pc := 5) dX0_highestTargetInDisc_5 rfl ?_
      refine z_get 0 7 (pc := 6) (v := .int o_discSize) rfl rfl inX0 (by decide) flX0_35 rfl dX0_highestTargetInDisc_6 ?_
      refine z_icmp_ge (pc := 9) (tgt := 34) dX0_highestTargetInDisc_9 (by decide) hf0_4 (fun hf0_4 => ?_) (fun hf0_4 => ?_)
      · obtain rfl := Option.some.inj hf0_4
        refine z_iload_n 1 (pc := 34) dX0_highestTargetInDisc_34 rfl ?_
        obtain rfl := Option.some.inj hf0
        exact z_iret hE dX0_highestTargetInDisc_35
      · refine z_iload_n 1 (pc := 12) dX0_highestTargetInDisc_12 rfl ?_
        refine z_aload_n 0 (pc := 13) dX0_highestTargetInDisc_13 rfl ?_
        refine z_get 0 3 (pc := 14) (v := .ref h_o_targets) rfl rfl inX0 (by decide) flX0_22 rfl dX0_highestTargetInDisc_14 ?_
        refine z_aload_n 0 (pc := 17) dX0_highestTargetInDisc_17 rfl ?_
        refine z_get 0 6 (pc := 18) (v := .ref h_o_disc) rfl rfl inX0 (by decide) flX0_32 rfl dX0_highestTargetInDisc_18 ?_
        refine z_iload_n 2 (pc := 21) dX0_highestTargetInDisc_21 rfl ?_
        refine z_iaload 2 0 (pc := 22) rfl rfl dX0_highestTargetInDisc_22 hf0_4 (fun hf0_4 => ?_)
        refine z_iaload 1 0 (pc := 23) rfl rfl dX0_highestTargetInDisc_23 hf0_4 (fun hf0_4 => ?_)
        refine z_mmax (pc := 24) mlX0_56 mst_max mini mcd_max (by decide) (Nat.le_of_ble_eq_true rfl) (Nat.zero_le _) (Nat.zero_le _) dX0_highestTargetInDisc_24 ?_
        refine z_istore_n (pc := 27) (lv' := [(1, .int (if x1_4 < (o_targets (o_disc x2_4.toNatClampNeg).toNatClampNeg) then (o_targets (o_disc x2_4.toNatClampNeg).toNatClampNeg) else x1_4)), (0, .ref h_o), (2, .int x2_4)]) dX0_highestTargetInDisc_27 (by decide) rfl ?_
        refine z_iinc 2 (pc := 28) (v := x2_4 + 1) (lv' := [(2, .int (x2_4 + 1)), (1, .int (if x1_4 < (o_targets (o_disc x2_4.toNatClampNeg).toNatClampNeg) then (o_targets (o_disc x2_4.toNatClampNeg).toNatClampNeg) else x1_4)), (0, .ref h_o)]) dX0_highestTargetInDisc_28 rfl rfl (by decide) rfl ?_
        refine z_goto (pc := 31) (tgt := 4) dX0_highestTargetInDisc_31 (by decide) ?_
        exact z_lv [2, 1, 0] rfl (ih4 (if x1_4 < (o_targets (o_disc x2_4.toNatClampNeg).toNatClampNeg) then (o_targets (o_disc x2_4.toNatClampNeg).toNatClampNeg) else x1_4) (x2_4 + 1) hf0_4)
  exact z_lv [2, 1, 0] rfl (lp4 N 0 0 hf0_4)

abbrev RX0_discHasKept : Type := Int32
abbrev rmX0_discHasKept : Room := { frames := 0, cells := 0, slots := 0, locals := 0 }
abbrev wsX0_discHasKept (cA : Nat → ClassId) (h_o : Nat) (h_o_kept : Nat) (h_o_disc : Nat) (o_side : Int32) (o_cells : Int32) (o_heights : Value) (o_targets : Value) (o_marks : Value) (o_discSize : Int32) (o_kept_n : Nat) (o_kept : Nat → Int32) (o_disc_n : Nat) (o_disc : Nat → Int32) : va_W := [(h_o, .inr (0, [.int o_side, .int o_cells, o_heights, o_targets, .ref h_o_kept, o_marks, .ref h_o_disc, .int o_discSize])), (h_o_kept, .inl (cA 1, o_kept_n, .inl o_kept)), (h_o_disc, .inl (cA 0, o_disc_n, .inl o_disc))]
def LX0_discHasKept_2 (o_discSize : Int32) (o_disc_n : Nat) (o_disc : Nat → Int32) (o_kept_n : Nat) (o_kept : Nat → Int32) : Nat → Int32 → Option (RX0_discHasKept)
  | 0, _ => none
  | n + 1, x1_2 => (if o_discSize ≤ x1_2 then some 0 else (if x1_2 < 0 ∨ o_disc_n ≤ x1_2.toNatClampNeg then none else (if (o_disc x1_2.toNatClampNeg) < 0 ∨ o_kept_n ≤ (o_disc x1_2.toNatClampNeg).toNatClampNeg then none else (if (o_kept (o_disc x1_2.toNatClampNeg).toNatClampNeg) = 0 then LX0_discHasKept_2 o_discSize o_disc_n o_disc o_kept_n o_kept n (x1_2 + 1) else some 1))))
def fX0_discHasKept (N : Nat)  (o_discSize : Int32) (o_kept_n : Nat) (o_kept : Nat → Int32) (o_disc_n : Nat) (o_disc : Nat → Int32) : Option RX0_discHasKept :=
  LX0_discHasKept_2 o_discSize o_disc_n o_disc o_kept_n o_kept N 0
set_option maxHeartbeats 4000000 in
set_option maxRecDepth 100000 in
theorem kX0_discHasKept (l : Launch) (D : va_G) (cA : Nat → ClassId) (h_o : Nat) (h_o_kept : Nat) (h_o_disc : Nat) (o_side : Int32) (o_cells : Int32) (o_heights : Value) (o_targets : Value) (o_marks : Value) (o_discSize : Int32) (o_kept_n : Nat) (o_kept : Nat → Int32) (o_disc_n : Nat) (o_disc : Nat → Int32)  (N : Nat) (res : RX0_discHasKept) (hf0 : fX0_discHasKept N o_discSize o_kept_n o_kept o_disc_n o_disc = some res) : CtI l yX0_discHasKept (Cond.code yX0_discHasKept cX0_discHasKept 2 (some .boolean) :: tblG) rmX0_discHasKept D cA (wsX0_discHasKept cA h_o h_o_kept h_o_disc o_side o_cells o_heights o_targets o_marks o_discSize o_kept_n o_kept o_disc_n o_disc) [.ref h_o] res (wsX0_discHasKept cA h_o h_o_kept h_o_disc o_side o_cells o_heights o_targets o_marks o_discSize o_kept_n o_kept o_disc_n o_disc) := by
  refine CtI.start (lv := [(0, .ref h_o)]) (by decide) (Nat.le_of_ble_eq_true rfl) rfl (fun κ hE => ?_)
  rw [fX0_discHasKept] at hf0
  refine z_iconst (pc := 0) (v := 0) dX0_discHasKept_0 (by decide) ?_
  refine z_istore_n (pc := 1) (lv' := [(1, .int 0), (0, .ref h_o)]) dX0_discHasKept_1 (by decide) rfl ?_
  have lp2 : ∀ (n : Nat) (x1_2 : Int32), LX0_discHasKept_2 o_discSize o_disc_n o_disc o_kept_n o_kept n x1_2 = some res → V κ l D cA rmX0_discHasKept cX0_discHasKept 2 RX0 (some .boolean) 0 0 2 [(0, .ref h_o), (1, .int x1_2)] [] (wsX0_discHasKept cA h_o h_o_kept h_o_disc o_side o_cells o_heights o_targets o_marks o_discSize o_kept_n o_kept o_disc_n o_disc) := by
    intro n
    induction n with
    | zero => intro x1_2 hf0; rw [LX0_discHasKept_2] at hf0; cases hf0
    | succ n ih2 =>
      intro x1_2 hf0
      rw [LX0_discHasKept_2] at hf0
      refine z_iload_n 1 (pc := 2) dX0_discHasKept_2 rfl ?_
      refine z_aload_n 0 (pc := 3) dX0_discHasKept_3 rfl ?_
      refine z_get 0 7 (pc := 4) (v := .int o_discSize) rfl rfl inX0 (by decide) flX0_35 rfl dX0_discHasKept_4 ?_
      refine z_icmp_ge (pc := 7) (tgt := 32) dX0_discHasKept_7 (by decide) hf0 (fun hf0 => ?_) (fun hf0 => ?_)
      · refine z_iconst (pc := 32) (v := 0) dX0_discHasKept_32 (by decide) ?_
        obtain rfl := Option.some.inj hf0
        exact z_zretL (by decide) hE dX0_discHasKept_33
      · refine z_aload_n 0 (pc := 10) dX0_discHasKept_10 rfl ?_
        refine z_get 0 4 (pc := 11) (v := .ref h_o_kept) rfl rfl inX0 (by decide) flX0_25 rfl dX0_discHasKept_11 ?_
        refine z_aload_n 0 (pc := 14) dX0_discHasKept_14 rfl ?_
        refine z_get 0 6 (pc := 15) (v := .ref h_o_disc) rfl rfl inX0 (by decide) flX0_32 rfl dX0_discHasKept_15 ?_
        refine z_iload_n 1 (pc := 18) dX0_discHasKept_18 rfl ?_
        refine z_iaload 2 0 (pc := 19) rfl rfl dX0_discHasKept_19 hf0 (fun hf0 => ?_)
        refine z_zaload 1 1 (pc := 20) rfl rfl dX0_discHasKept_20 hf0 (fun hf0 => ?_)
        refine z_if_eq (pc := 21) (tgt := 26) dX0_discHasKept_21 (by decide) hf0 (fun hf0 => ?_) (fun hf0 => ?_)
        · refine z_iinc 1 (pc := 26) (v := x1_2 + 1) (lv' := [(1, .int (x1_2 + 1)), (0, .ref h_o)]) dX0_discHasKept_26 rfl rfl (by decide) rfl ?_
          refine z_goto (pc := 29) (tgt := 2) dX0_discHasKept_29 (by decide) ?_
          exact z_lv [1, 0] rfl (ih2 (x1_2 + 1) hf0)
        · refine z_iconst (pc := 24) (v := 1) dX0_discHasKept_24 (by decide) ?_
          obtain rfl := Option.some.inj hf0
          exact z_zretL (by decide) hE dX0_discHasKept_25
  exact z_lv [1, 0] rfl (lp2 N 0 hf0)

abbrev RX0_markReached : Type := Int32 × (Nat → Int32)
abbrev rmX0_markReached : Room := { frames := 1, cells := 0, slots := 0, locals := 22 }
abbrev wsX0_markReached (cA : Nat → ClassId) (h_o : Nat) (h_o_disc : Nat) (h_o_marks : Nat) (h_o_targets : Nat) (h_o_heights : Nat) (o_side : Int32) (o_cells : Int32) (o_kept : Value) (o_discSize : Int32) (o_disc_n : Nat) (o_disc : Nat → Int32) (o_marks_n : Nat) (o_marks : Nat → Int32) (o_targets_n : Nat) (o_targets : Nat → Int32) (o_heights_n : Nat) (o_heights : Nat → Int32) : va_W := [(h_o, .inr (0, [.int o_side, .int o_cells, .ref h_o_heights, .ref h_o_targets, o_kept, .ref h_o_marks, .ref h_o_disc, .int o_discSize])), (h_o_disc, .inl (cA 0, o_disc_n, .inl o_disc)), (h_o_marks, .inl (cA 1, o_marks_n, .inl o_marks)), (h_o_targets, .inl (cA 0, o_targets_n, .inl o_targets)), (h_o_heights, .inl (cA 0, o_heights_n, .inl o_heights))]
def LX0_markReached_4 (o_discSize : Int32) (o_disc_n : Nat) (o_disc : Nat → Int32) (o_marks_n : Nat) (o_targets_n : Nat) (o_targets : Nat → Int32) (a1 : Int32) (N : Nat) (o_heights_n : Nat) (o_heights : Nat → Int32) : Nat → Int32 → Int32 → (Nat → Int32) → Option (Int32 × Int32 × (Nat → Int32))
  | 0, _, _, _ => none
  | n + 1, x2_4, x3_4, o_marks_4 => (if o_discSize ≤ x3_4 then some (x2_4, x3_4, o_marks_4) else (if x3_4 < 0 ∨ o_disc_n ≤ x3_4.toNatClampNeg then none else (if (o_disc x3_4.toNatClampNeg) < 0 ∨ o_marks_n ≤ (o_disc x3_4.toNatClampNeg).toNatClampNeg then none else (if (o_marks_4 (o_disc x3_4.toNatClampNeg).toNatClampNeg) = 0 then (if (o_disc x3_4.toNatClampNeg) < 0 ∨ o_targets_n ≤ (o_disc x3_4.toNatClampNeg).toNatClampNeg then none else (if (o_targets (o_disc x3_4.toNatClampNeg).toNatClampNeg) = a1 then ((fX0_isOff N (o_disc x3_4.toNatClampNeg) 1 o_heights_n o_heights o_targets_n o_targets).bind fun r2 => (if r2 = 0 then LX0_markReached_4 o_discSize o_disc_n o_disc o_marks_n o_targets_n o_targets a1 N o_heights_n o_heights n x2_4 (x3_4 + 1) o_marks_4 else (if (o_disc x3_4.toNatClampNeg) < 0 ∨ o_marks_n ≤ (o_disc x3_4.toNatClampNeg).toNatClampNeg then none else LX0_markReached_4 o_discSize o_disc_n o_disc o_marks_n o_targets_n o_targets a1 N o_heights_n o_heights n (x2_4 + 1) (x3_4 + 1) (upd o_marks_4 (o_disc x3_4.toNatClampNeg).toNatClampNeg (vp_nar .boolean 1))))) else LX0_markReached_4 o_discSize o_disc_n o_disc o_marks_n o_targets_n o_targets a1 N o_heights_n o_heights n x2_4 (x3_4 + 1) o_marks_4)) else LX0_markReached_4 o_discSize o_disc_n o_disc o_marks_n o_targets_n o_targets a1 N o_heights_n o_heights n x2_4 (x3_4 + 1) o_marks_4))))
def fX0_markReached (N : Nat) (a1 : Int32) (o_discSize : Int32) (o_disc_n : Nat) (o_disc : Nat → Int32) (o_marks_n : Nat) (o_marks : Nat → Int32) (o_targets_n : Nat) (o_targets : Nat → Int32) (o_heights_n : Nat) (o_heights : Nat → Int32) : Option RX0_markReached :=
  ((LX0_markReached_4 o_discSize o_disc_n o_disc o_marks_n o_targets_n o_targets a1 N o_heights_n o_heights N 0 0 o_marks).bind fun r1 => some (r1.1, r1.2.2))
set_option maxHeartbeats 4000000 in
set_option maxRecDepth 100000 in
theorem kX0_markReached (l : Launch) (D : va_G) (cA : Nat → ClassId) (h_o : Nat) (h_o_disc : Nat) (h_o_marks : Nat) (h_o_targets : Nat) (h_o_heights : Nat) (o_side : Int32) (o_cells : Int32) (o_kept : Value) (o_discSize : Int32) (o_disc_n : Nat) (o_disc : Nat → Int32) (o_marks_n : Nat) (o_marks : Nat → Int32) (o_targets_n : Nat) (o_targets : Nat → Int32) (o_heights_n : Nat) (o_heights : Nat → Int32) (a1 : Int32) (N : Nat) (res : RX0_markReached) (hf0 : fX0_markReached N a1 o_discSize o_disc_n o_disc o_marks_n o_marks o_targets_n o_targets o_heights_n o_heights = some res) : CtI l yX0_markReached (Cond.code yX0_markReached cX0_markReached 5 (some .int) :: tblG) rmX0_markReached D cA (wsX0_markReached cA h_o h_o_disc h_o_marks h_o_targets h_o_heights o_side o_cells o_kept o_discSize o_disc_n o_disc o_marks_n o_marks o_targets_n o_targets o_heights_n o_heights) [.ref h_o, .int a1] res.1 (wsX0_markReached cA h_o h_o_disc h_o_marks h_o_targets h_o_heights o_side o_cells o_kept o_discSize o_disc_n o_disc o_marks_n res.2 o_targets_n o_targets o_heights_n o_heights) := by
  refine CtI.start (lv := [(0, .ref h_o), (1, .int a1)]) (by decide) (Nat.le_of_ble_eq_true rfl) rfl (fun κ hE => ?_)
  rw [fX0_markReached] at hf0
  refine z_iconst (pc := 0) (v := 0) dX0_markReached_0 (by decide) ?_
  refine z_istore_n (pc := 1) (lv' := [(2, .int 0), (0, .ref h_o), (1, .int a1)]) dX0_markReached_1 (by decide) rfl ?_
  refine z_iconst (pc := 2) (v := 0) dX0_markReached_2 (by decide) ?_
  refine z_istore_n (pc := 3) (lv' := [(3, .int 0), (2, .int 0), (0, .ref h_o), (1, .int a1)]) dX0_markReached_3 (by decide) rfl ?_
  obtain ⟨y4, hf0_4, hf0⟩ := bp hf0
  have lp4 : ∀ (n : Nat) (x2_4 : Int32) (x3_4 : Int32) (o_marks_4 : Nat → Int32), LX0_markReached_4 o_discSize o_disc_n o_disc o_marks_n o_targets_n o_targets a1 N o_heights_n o_heights n x2_4 x3_4 o_marks_4 = some y4 → V κ l D cA rmX0_markReached cX0_markReached 5 RX0 (some .int) 0 0 4 [(0, .ref h_o), (1, .int a1), (2, .int x2_4), (3, .int x3_4)] [] (wsX0_markReached cA h_o h_o_disc h_o_marks h_o_targets h_o_heights o_side o_cells o_kept o_discSize o_disc_n o_disc o_marks_n o_marks_4 o_targets_n o_targets o_heights_n o_heights) := by
    intro n
    induction n with
    | zero => intro x2_4 x3_4 o_marks_4 hf0_4; rw [LX0_markReached_4] at hf0_4; cases hf0_4
    | succ n ih4 =>
      intro x2_4 x3_4 o_marks_4 hf0_4
      rw [LX0_markReached_4] at hf0_4
      refine z_iload_n 3 (pc := 4) dX0_markReached_4 rfl ?_
      refine z_aload_n 0 (pc := 5) dX0_markReached_5 rfl ?_
      refine z_get 0 7 (pc := 6) (v := .int o_discSize) rfl rfl inX0 (by decide) flX0_35 rfl dX0_markReached_6 ?_
      refine z_icmp_ge (pc := 9) (tgt := 68) dX0_markReached_9 (by decide) hf0_4 (fun hf0_4 => ?_) (fun hf0_4 => ?_)
      · obtain rfl := Option.some.inj hf0_4
        refine z_iload_n 2 (pc := 68) dX0_markReached_68 rfl ?_
        obtain rfl := Option.some.inj hf0
        exact z_iret hE dX0_markReached_69
      · refine z_aload_n 0 (pc := 12) dX0_markReached_12 rfl ?_
        refine z_get 0 6 (pc := 13) (v := .ref h_o_disc) rfl rfl inX0 (by decide) flX0_32 rfl dX0_markReached_13 ?_
        refine z_iload_n 3 (pc := 16) dX0_markReached_16 rfl ?_
        refine z_iaload 1 0 (pc := 17) rfl rfl dX0_markReached_17 hf0_4 (fun hf0_4 => ?_)
        refine z_istore (pc := 18) (lv' := [(4, .int (o_disc x3_4.toNatClampNeg)), (0, .ref h_o), (1, .int a1), (2, .int x2_4), (3, .int x3_4)]) dX0_markReached_18 (by decide) rfl ?_
        refine z_aload_n 1 (pc := 20) dX0_markReached_20 rfl ?_
        refine z_get 0 5 (pc := 21) (v := .ref h_o_marks) rfl rfl inX0 (by decide) flX0_29 rfl dX0_markReached_21 ?_
        refine z_iload 0 (pc := 24) dX0_markReached_24 rfl ?_
        refine z_zaload 2 1 (pc := 26) rfl rfl dX0_markReached_26 hf0_4 (fun hf0_4 => ?_)
        refine z_if_ne (pc := 27) (tgt := 62) dX0_markReached_27 (by decide) hf0_4 (fun hf0_4 => ?_) (fun hf0_4 => ?_)
        · refine z_iinc 4 (pc := 62) (v := x3_4 + 1) (lv' := [(3, .int (x3_4 + 1)), (4, .int (o_disc x3_4.toNatClampNeg)), (0, .ref h_o), (1, .int a1), (2, .int x2_4)]) dX0_markReached_62 rfl rfl (by decide) rfl ?_
          refine z_goto (pc := 65) (tgt := 4) dX0_markReached_65 (by decide) ?_
          exact z_lv [2, 3, 4, 0] rfl (ih4 x2_4 (x3_4 + 1) o_marks_4 hf0_4)
        · refine z_aload_n 1 (pc := 30) dX0_markReached_30 rfl ?_
          refine z_get 0 3 (pc := 31) (v := .ref h_o_targets) rfl rfl inX0 (by decide) flX0_22 rfl dX0_markReached_31 ?_
          refine z_iload 0 (pc := 34) dX0_markReached_34 rfl ?_
          refine z_iaload 3 0 (pc := 36) rfl rfl dX0_markReached_36 hf0_4 (fun hf0_4 => ?_)
          refine z_iload_n 2 (pc := 37) dX0_markReached_37 rfl ?_
          refine z_icmp_ne (pc := 38) (tgt := 62) dX0_markReached_38 (by decide) hf0_4 (fun hf0_4 => ?_) (fun hf0_4 => ?_)
          · refine z_iinc 4 (pc := 62) (v := x3_4 + 1) (lv' := [(3, .int (x3_4 + 1)), (4, .int (o_disc x3_4.toNatClampNeg)), (0, .ref h_o), (1, .int a1), (2, .int x2_4)]) dX0_markReached_62 rfl rfl (by decide) rfl ?_
            refine z_goto (pc := 65) (tgt := 4) dX0_markReached_65 (by decide) ?_
            exact z_lv [2, 3, 4, 0] rfl (ih4 x2_4 (x3_4 + 1) o_marks_4 hf0_4)
          · refine z_aload_n 1 (pc := 41) dX0_markReached_41 rfl ?_
            refine z_iload 0 (pc := 42) dX0_markReached_42 rfl ?_
            refine z_iconst (pc := 44) (v := 1) dX0_markReached_44 (by decide) ?_
            obtain ⟨r2, er2, hf0_4⟩ := bp hf0_4
            refine z_calliV (pc := 45) (As := [.int (o_disc x3_4.toNatClampNeg), .int 1]) (rest := []) (ws' := (wsX0_markReached cA h_o h_o_disc h_o_marks h_o_targets h_o_heights o_side o_cells o_kept o_discSize o_disc_n o_disc o_marks_n o_marks_4 o_targets_n o_targets o_heights_n o_heights)) (kX0_isOff l D cA h_o h_o_heights h_o_targets o_side o_cells o_kept (.ref h_o_marks) (.ref h_o_disc) o_discSize o_heights_n o_heights o_targets_n o_targets (o_disc x3_4.toNatClampNeg) 1 N r2 er2) ivX0_42 ⟨rfl, rfl⟩ ⟨by decide, by decide⟩ rfl ⟨Nat.zero_le _, Nat.zero_le _⟩ rfl rfl [0, 4, 3] rfl (by decide) rfl rfl rfl (Nat.le_of_ble_eq_true rfl) dX0_markReached_45 ?_
            refine z_if_eq (pc := 48) (tgt := 62) dX0_markReached_48 (by decide) hf0_4 (fun hf0_4 => ?_) (fun hf0_4 => ?_)
            · refine z_iinc 4 (pc := 62) (v := x3_4 + 1) (lv' := [(3, .int (x3_4 + 1)), (4, .int (o_disc x3_4.toNatClampNeg)), (0, .ref h_o), (1, .int a1), (2, .int x2_4)]) dX0_markReached_62 rfl rfl (by decide) rfl ?_
              refine z_goto (pc := 65) (tgt := 4) dX0_markReached_65 (by decide) ?_
              exact z_lv [2, 3, 4, 0] rfl (ih4 x2_4 (x3_4 + 1) o_marks_4 hf0_4)
            · refine z_aload_n 1 (pc := 51) dX0_markReached_51 rfl ?_
              refine z_get 0 5 (pc := 52) (v := .ref h_o_marks) rfl rfl inX0 (by decide) flX0_29 rfl dX0_markReached_52 ?_
              refine z_iload 0 (pc := 55) dX0_markReached_55 rfl ?_
              refine z_iconst (pc := 57) (v := 1) dX0_markReached_57 (by decide) ?_
              refine z_zastore 2 1 (pc := 58) (ws' := (wsX0_markReached cA h_o h_o_disc h_o_marks h_o_targets h_o_heights o_side o_cells o_kept o_discSize o_disc_n o_disc o_marks_n (upd o_marks_4 (o_disc x3_4.toNatClampNeg).toNatClampNeg (vp_nar .boolean 1)) o_targets_n o_targets o_heights_n o_heights)) rfl rfl dX0_markReached_58 rfl hf0_4 (fun hf0_4 => ?_)
              refine z_iinc 3 (pc := 59) (v := x2_4 + 1) (lv' := [(2, .int (x2_4 + 1)), (4, .int (o_disc x3_4.toNatClampNeg)), (0, .ref h_o), (1, .int a1), (3, .int x3_4)]) dX0_markReached_59 rfl rfl (by decide) rfl ?_
              refine z_iinc 4 (pc := 62) (v := x3_4 + 1) (lv' := [(3, .int (x3_4 + 1)), (2, .int (x2_4 + 1)), (4, .int (o_disc x3_4.toNatClampNeg)), (0, .ref h_o), (1, .int a1)]) dX0_markReached_62 rfl rfl (by decide) rfl ?_
              refine z_goto (pc := 65) (tgt := 4) dX0_markReached_65 (by decide) ?_
              exact z_lv [3, 4, 1, 0] rfl (ih4 (x2_4 + 1) (x3_4 + 1) (upd o_marks_4 (o_disc x3_4.toNatClampNeg).toNatClampNeg (vp_nar .boolean 1)) hf0_4)
  exact z_lv [2, 3, 1, 0] rfl (lp4 N 0 0 o_marks hf0_4)

abbrev RX0_countReached : Type := Int32 × Int32 × (Nat → Int32) × (Nat → Int32)
abbrev rmX0_countReached : Room := { frames := 2, cells := 0, slots := 0, locals := 50 }
abbrev wsX0_countReached (cA : Nat → ClassId) (h_o : Nat) (h_p1 : Nat) (h_o_marks : Nat) (h_p1_halfWidths : Nat) (h_o_disc : Nat) (h_o_kept : Nat) (h_o_targets : Nat) (h_o_heights : Nat) (o_side : Int32) (o_cells : Int32) (o_discSize : Int32) (p1_radius : Int32) (p1_feed : Int32) (o_marks_n : Nat) (o_marks : Nat → Int32) (p1_halfWidths_n : Nat) (p1_halfWidths : Nat → Int32) (o_disc_n : Nat) (o_disc : Nat → Int32) (o_kept_n : Nat) (o_kept : Nat → Int32) (o_targets_n : Nat) (o_targets : Nat → Int32) (o_heights_n : Nat) (o_heights : Nat → Int32) : va_W := [(h_o, .inr (0, [.int o_side, .int o_cells, .ref h_o_heights, .ref h_o_targets, .ref h_o_kept, .ref h_o_marks, .ref h_o_disc, .int o_discSize])), (h_p1, .inr (5, [.int p1_radius, .int p1_feed, .ref h_p1_halfWidths])), (h_o_marks, .inl (cA 1, o_marks_n, .inl o_marks)), (h_p1_halfWidths, .inl (cA 0, p1_halfWidths_n, .inl p1_halfWidths)), (h_o_disc, .inl (cA 0, o_disc_n, .inl o_disc)), (h_o_kept, .inl (cA 1, o_kept_n, .inl o_kept)), (h_o_targets, .inl (cA 0, o_targets_n, .inl o_targets)), (h_o_heights, .inl (cA 0, o_heights_n, .inl o_heights))]
def LX0_countReached_38 (o_side : Int32) (N : Nat) (x3_27 : Int32) (p1_radius : Int32) (p1_halfWidths_n : Nat) (p1_halfWidths : Nat → Int32) (o_disc_n : Nat) (o_kept_n : Nat) (o_kept : Nat → Int32) (o_targets_n : Nat) (o_targets : Nat → Int32) (o_marks_n : Nat) (o_heights_n : Nat) (o_heights : Nat → Int32) : Nat → Int32 → Int32 → (Nat → Int32) → Int32 → (Nat → Int32) → Option (Int32 × Int32 × (Nat → Int32) × Int32 × (Nat → Int32))
  | 0, _, _, _, _, _ => none
  | n + 1, x2_38, x4_38, o_disc_38, o_discSize_38, o_marks_38 => (if o_side ≤ x4_38 then some (x2_38, x4_38, o_disc_38, o_discSize_38, o_marks_38) else ((fX0_layDisc N x4_38 x3_27 o_side o_discSize_38 p1_radius p1_halfWidths_n p1_halfWidths o_disc_n o_disc_38).bind fun r4 => ((fX0_discHasKept N r4.1 o_kept_n o_kept o_disc_n r4.2).bind fun r5 => (if r5 = 0 then ((fX0_highestTargetInDisc N r4.1 o_targets_n o_targets o_disc_n r4.2).bind fun r6 => ((fX0_markReached N r6 r4.1 o_disc_n r4.2 o_marks_n o_marks_38 o_targets_n o_targets o_heights_n o_heights).bind fun r7 => LX0_countReached_38 o_side N x3_27 p1_radius p1_halfWidths_n p1_halfWidths o_disc_n o_kept_n o_kept o_targets_n o_targets o_marks_n o_heights_n o_heights n (x2_38 + r7.1) (x4_38 + 1) r4.2 r4.1 r7.2)) else LX0_countReached_38 o_side N x3_27 p1_radius p1_halfWidths_n p1_halfWidths o_disc_n o_kept_n o_kept o_targets_n o_targets o_marks_n o_heights_n o_heights n x2_38 (x4_38 + 1) r4.2 r4.1 o_marks_38))))
def LX0_countReached_27 (o_side : Int32) (N : Nat) (p1_radius : Int32) (p1_halfWidths_n : Nat) (p1_halfWidths : Nat → Int32) (o_disc_n : Nat) (o_kept_n : Nat) (o_kept : Nat → Int32) (o_targets_n : Nat) (o_targets : Nat → Int32) (o_marks_n : Nat) (o_heights_n : Nat) (o_heights : Nat → Int32) : Nat → Int32 → Int32 → (Nat → Int32) → Int32 → (Nat → Int32) → Option (Int32 × Int32 × (Nat → Int32) × Int32 × (Nat → Int32))
  | 0, _, _, _, _, _ => none
  | n + 1, x2_27, x3_27, o_disc_27, o_discSize_27, o_marks_27 => (if o_side ≤ x3_27 then some (x2_27, x3_27, o_disc_27, o_discSize_27, o_marks_27) else ((LX0_countReached_38 o_side N x3_27 p1_radius p1_halfWidths_n p1_halfWidths o_disc_n o_kept_n o_kept o_targets_n o_targets o_marks_n o_heights_n o_heights N x2_27 0 o_disc_27 o_discSize_27 o_marks_27).bind fun r3 => LX0_countReached_27 o_side N p1_radius p1_halfWidths_n p1_halfWidths o_disc_n o_kept_n o_kept o_targets_n o_targets o_marks_n o_heights_n o_heights n r3.1 (x3_27 + 1) r3.2.2.1 r3.2.2.2.1 r3.2.2.2.2))
def LX0_countReached_2 (o_cells : Int32) (o_marks_n : Nat) : Nat → Int32 → (Nat → Int32) → Option (Int32 × (Nat → Int32))
  | 0, _, _ => none
  | n + 1, x2_2, o_marks_2 => (if o_cells ≤ x2_2 then some (x2_2, o_marks_2) else (if x2_2 < 0 ∨ o_marks_n ≤ x2_2.toNatClampNeg then none else LX0_countReached_2 o_cells o_marks_n n (x2_2 + 1) (upd o_marks_2 x2_2.toNatClampNeg (vp_nar .boolean 0))))
def fX0_countReached (N : Nat)  (o_side : Int32) (o_cells : Int32) (o_discSize : Int32) (p1_radius : Int32) (o_marks_n : Nat) (o_marks : Nat → Int32) (p1_halfWidths_n : Nat) (p1_halfWidths : Nat → Int32) (o_disc_n : Nat) (o_disc : Nat → Int32) (o_kept_n : Nat) (o_kept : Nat → Int32) (o_targets_n : Nat) (o_targets : Nat → Int32) (o_heights_n : Nat) (o_heights : Nat → Int32) : Option RX0_countReached :=
  ((LX0_countReached_2 o_cells o_marks_n N 0 o_marks).bind fun r1 => ((LX0_countReached_27 o_side N p1_radius p1_halfWidths_n p1_halfWidths o_disc_n o_kept_n o_kept o_targets_n o_targets o_marks_n o_heights_n o_heights N 0 0 o_disc o_discSize r1.2).bind fun r2 => some (r2.1, r2.2.2.2.1, r2.2.2.2.2, r2.2.2.1)))
set_option maxHeartbeats 4000000 in
set_option maxRecDepth 100000 in
theorem kX0_countReached (l : Launch) (D : va_G) (cA : Nat → ClassId) (h_o : Nat) (h_p1 : Nat) (h_o_marks : Nat) (h_p1_halfWidths : Nat) (h_o_disc : Nat) (h_o_kept : Nat) (h_o_targets : Nat) (h_o_heights : Nat) (o_side : Int32) (o_cells : Int32) (o_discSize : Int32) (p1_radius : Int32) (p1_feed : Int32) (o_marks_n : Nat) (o_marks : Nat → Int32) (p1_halfWidths_n : Nat) (p1_halfWidths : Nat → Int32) (o_disc_n : Nat) (o_disc : Nat → Int32) (o_kept_n : Nat) (o_kept : Nat → Int32) (o_targets_n : Nat) (o_targets : Nat → Int32) (o_heights_n : Nat) (o_heights : Nat → Int32)  (N : Nat) (res : RX0_countReached) (hf0 : fX0_countReached N o_side o_cells o_discSize p1_radius o_marks_n o_marks p1_halfWidths_n p1_halfWidths o_disc_n o_disc o_kept_n o_kept o_targets_n o_targets o_heights_n o_heights = some res) : CtI l yX0_countReached (Cond.code yX0_countReached cX0_countReached 5 (some .int) :: tblG) rmX0_countReached D cA (wsX0_countReached cA h_o h_p1 h_o_marks h_p1_halfWidths h_o_disc h_o_kept h_o_targets h_o_heights o_side o_cells o_discSize p1_radius p1_feed o_marks_n o_marks p1_halfWidths_n p1_halfWidths o_disc_n o_disc o_kept_n o_kept o_targets_n o_targets o_heights_n o_heights) [.ref h_o, .ref h_p1] res.1 (wsX0_countReached cA h_o h_p1 h_o_marks h_p1_halfWidths h_o_disc h_o_kept h_o_targets h_o_heights o_side o_cells res.2.1 p1_radius p1_feed o_marks_n res.2.2.1 p1_halfWidths_n p1_halfWidths o_disc_n res.2.2.2 o_kept_n o_kept o_targets_n o_targets o_heights_n o_heights) := by
  refine CtI.start (lv := [(0, .ref h_o), (1, .ref h_p1)]) (by decide) (Nat.le_of_ble_eq_true rfl) rfl (fun κ hE => ?_)
  rw [fX0_countReached] at hf0
  refine z_iconst (pc := 0) (v := 0) dX0_countReached_0 (by decide) ?_
  refine z_istore_n (pc := 1) (lv' := [(2, .int 0), (0, .ref h_o), (1, .ref h_p1)]) dX0_countReached_1 (by decide) rfl ?_
  obtain ⟨y2, hf0_2, hf0⟩ := bp hf0
  have lp2 : ∀ (n : Nat) (x2_2 : Int32) (o_marks_2 : Nat → Int32), LX0_countReached_2 o_cells o_marks_n n x2_2 o_marks_2 = some y2 → V κ l D cA rmX0_countReached cX0_countReached 5 RX0 (some .int) 0 0 2 [(0, .ref h_o), (1, .ref h_p1), (2, .int x2_2)] [] (wsX0_countReached cA h_o h_p1 h_o_marks h_p1_halfWidths h_o_disc h_o_kept h_o_targets h_o_heights o_side o_cells o_discSize p1_radius p1_feed o_marks_n o_marks_2 p1_halfWidths_n p1_halfWidths o_disc_n o_disc o_kept_n o_kept o_targets_n o_targets o_heights_n o_heights) := by
    intro n
    induction n with
    | zero => intro x2_2 o_marks_2 hf0_2; rw [LX0_countReached_2] at hf0_2; cases hf0_2
    | succ n ih2 =>
      intro x2_2 o_marks_2 hf0_2
      rw [LX0_countReached_2] at hf0_2
      refine z_iload_n 2 (pc := 2) dX0_countReached_2 rfl ?_
      refine z_aload_n 0 (pc := 3) dX0_countReached_3 rfl ?_
      refine z_get 0 1 (pc := 4) (v := .int o_cells) rfl rfl inX0 (by decide) flX0_15 rfl dX0_countReached_4 ?_
      refine z_icmp_ge (pc := 7) (tgt := 23) dX0_countReached_7 (by decide) hf0_2 (fun hf0_2 => ?_) (fun hf0_2 => ?_)
      · obtain rfl := Option.some.inj hf0_2
        refine z_iconst (pc := 23) (v := 0) dX0_countReached_23 (by decide) ?_
        refine z_istore_n (pc := 24) (lv' := [(2, .int 0), (0, .ref h_o), (1, .ref h_p1)]) dX0_countReached_24 (by decide) rfl ?_
        refine z_iconst (pc := 25) (v := 0) dX0_countReached_25 (by decide) ?_
        refine z_istore_n (pc := 26) (lv' := [(3, .int 0), (2, .int 0), (0, .ref h_o), (1, .ref h_p1)]) dX0_countReached_26 (by decide) rfl ?_
        obtain ⟨y27, hf0_27, hf0⟩ := bp hf0
        have lp27 : ∀ (n : Nat) (x2_27 : Int32) (x3_27 : Int32) (o_disc_27 : Nat → Int32) (o_discSize_27 : Int32) (o_marks_27 : Nat → Int32), LX0_countReached_27 o_side N p1_radius p1_halfWidths_n p1_halfWidths o_disc_n o_kept_n o_kept o_targets_n o_targets o_marks_n o_heights_n o_heights n x2_27 x3_27 o_disc_27 o_discSize_27 o_marks_27 = some y27 → V κ l D cA rmX0_countReached cX0_countReached 5 RX0 (some .int) 0 0 27 [(0, .ref h_o), (1, .ref h_p1), (2, .int x2_27), (3, .int x3_27)] [] (wsX0_countReached cA h_o h_p1 h_o_marks h_p1_halfWidths h_o_disc h_o_kept h_o_targets h_o_heights o_side o_cells o_discSize_27 p1_radius p1_feed o_marks_n o_marks_27 p1_halfWidths_n p1_halfWidths o_disc_n o_disc_27 o_kept_n o_kept o_targets_n o_targets o_heights_n o_heights) := by
          intro n
          induction n with
          | zero => intro x2_27 x3_27 o_disc_27 o_discSize_27 o_marks_27 hf0_27; rw [LX0_countReached_27] at hf0_27; cases hf0_27
          | succ n ih27 =>
            intro x2_27 x3_27 o_disc_27 o_discSize_27 o_marks_27 hf0_27
            rw [LX0_countReached_27] at hf0_27
            refine z_iload_n 3 (pc := 27) dX0_countReached_27 rfl ?_
            refine z_aload_n 0 (pc := 28) dX0_countReached_28 rfl ?_
            refine z_get 0 0 (pc := 29) (v := .int o_side) rfl rfl inX0 (by decide) flX0_9 rfl dX0_countReached_29 ?_
            refine z_icmp_ge (pc := 32) (tgt := 85) dX0_countReached_32 (by decide) hf0_27 (fun hf0_27 => ?_) (fun hf0_27 => ?_)
            · obtain rfl := Option.some.inj hf0_27
              refine z_iload_n 2 (pc := 85) dX0_countReached_85 rfl ?_
              obtain rfl := Option.some.inj hf0
              exact z_iret hE dX0_countReached_86
            · refine z_iconst (pc := 35) (v := 0) dX0_countReached_35 (by decide) ?_
              refine z_istore (pc := 36) (lv' := [(4, .int 0), (0, .ref h_o), (1, .ref h_p1), (2, .int x2_27), (3, .int x3_27)]) dX0_countReached_36 (by decide) rfl ?_
              obtain ⟨y38, hf0_27_38, hf0_27⟩ := bp hf0_27
              have lp38 : ∀ (n : Nat) (x2_38 : Int32) (x4_38 : Int32) (o_disc_38 : Nat → Int32) (o_discSize_38 : Int32) (o_marks_38 : Nat → Int32), LX0_countReached_38 o_side N x3_27 p1_radius p1_halfWidths_n p1_halfWidths o_disc_n o_kept_n o_kept o_targets_n o_targets o_marks_n o_heights_n o_heights n x2_38 x4_38 o_disc_38 o_discSize_38 o_marks_38 = some y38 → V κ l D cA rmX0_countReached cX0_countReached 5 RX0 (some .int) 0 0 38 [(0, .ref h_o), (1, .ref h_p1), (3, .int x3_27), (2, .int x2_38), (4, .int x4_38)] [] (wsX0_countReached cA h_o h_p1 h_o_marks h_p1_halfWidths h_o_disc h_o_kept h_o_targets h_o_heights o_side o_cells o_discSize_38 p1_radius p1_feed o_marks_n o_marks_38 p1_halfWidths_n p1_halfWidths o_disc_n o_disc_38 o_kept_n o_kept o_targets_n o_targets o_heights_n o_heights) := by
                intro n
                induction n with
                | zero => intro x2_38 x4_38 o_disc_38 o_discSize_38 o_marks_38 hf0_27_38; rw [LX0_countReached_38] at hf0_27_38; cases hf0_27_38
                | succ n ih38 =>
                  intro x2_38 x4_38 o_disc_38 o_discSize_38 o_marks_38 hf0_27_38
                  rw [LX0_countReached_38] at hf0_27_38
                  refine z_iload 4 (pc := 38) dX0_countReached_38 rfl ?_
                  refine z_aload_n 0 (pc := 40) dX0_countReached_40 rfl ?_
                  refine z_get 0 0 (pc := 41) (v := .int o_side) rfl rfl inX0 (by decide) flX0_9 rfl dX0_countReached_41 ?_
                  refine z_icmp_ge (pc := 44) (tgt := 79) dX0_countReached_44 (by decide) hf0_27_38 (fun hf0_27_38 => ?_) (fun hf0_27_38 => ?_)
                  · obtain rfl := Option.some.inj hf0_27_38
                    refine z_iinc 2 (pc := 79) (v := x3_27 + 1) (lv' := [(3, .int (x3_27 + 1)), (0, .ref h_o), (1, .ref h_p1), (2, .int x2_38), (4, .int x4_38)]) dX0_countReached_79 rfl rfl (by decide) rfl ?_
                    refine z_goto (pc := 82) (tgt := 27) dX0_countReached_82 (by decide) ?_
                    exact z_lv [1, 2, 3, 0] rfl (ih27 x2_38 (x3_27 + 1) o_disc_38 o_discSize_38 o_marks_38 hf0_27)
                  · refine z_aload_n 0 (pc := 47) dX0_countReached_47 rfl ?_
                    refine z_aload_n 1 (pc := 48) dX0_countReached_48 rfl ?_
                    refine z_iload 4 (pc := 49) dX0_countReached_49 rfl ?_
                    refine z_iload_n 2 (pc := 51) dX0_countReached_51 rfl ?_
                    obtain ⟨r4, er4, hf0_27_38⟩ := bp hf0_27_38
                    refine z_callvV (pc := 52) (As := [.ref h_p1, .int x4_38, .int x3_27]) (rest := []) (ws' := (wsX0_countReached cA h_o h_p1 h_o_marks h_p1_halfWidths h_o_disc h_o_kept h_o_targets h_o_heights o_side o_cells r4.1 p1_radius p1_feed o_marks_n o_marks_38 p1_halfWidths_n p1_halfWidths o_disc_n r4.2 o_kept_n o_kept o_targets_n o_targets o_heights_n o_heights)) (kX0_layDisc l D cA h_o h_p1 h_p1_halfWidths h_o_disc o_side o_cells (.ref h_o_heights) (.ref h_o_targets) (.ref h_o_kept) (.ref h_o_marks) o_discSize_38 p1_radius p1_feed p1_halfWidths_n p1_halfWidths o_disc_n o_disc_38 x4_38 x3_27 N r4 er4) ivX0_66 ⟨rfl, rfl⟩ ⟨by decide, by decide⟩ rfl ⟨Nat.zero_le _, Nat.zero_le _⟩ rfl rfl [0, 1, 3, 4] rfl (by decide) rfl rfl rfl (Nat.le_of_ble_eq_true rfl) dX0_countReached_52 ?_
                    refine z_aload_n 0 (pc := 55) dX0_countReached_55 rfl ?_
                    obtain ⟨r5, er5, hf0_27_38⟩ := bp hf0_27_38
                    refine z_calliV (pc := 56) (As := []) (rest := []) (ws' := (wsX0_countReached cA h_o h_p1 h_o_marks h_p1_halfWidths h_o_disc h_o_kept h_o_targets h_o_heights o_side o_cells r4.1 p1_radius p1_feed o_marks_n o_marks_38 p1_halfWidths_n p1_halfWidths o_disc_n r4.2 o_kept_n o_kept o_targets_n o_targets o_heights_n o_heights)) (kX0_discHasKept l D cA h_o h_o_kept h_o_disc o_side o_cells (.ref h_o_heights) (.ref h_o_targets) (.ref h_o_marks) r4.1 o_kept_n o_kept o_disc_n r4.2  N r5 er5) ivX0_70 ⟨rfl, rfl⟩ ⟨by decide, by decide⟩ rfl ⟨Nat.zero_le _, Nat.zero_le _⟩ rfl rfl [0, 5, 4] rfl (by decide) rfl rfl rfl (Nat.le_of_ble_eq_true rfl) dX0_countReached_56 ?_
                    refine z_if_ne (pc := 59) (tgt := 73) dX0_countReached_59 (by decide) hf0_27_38 (fun hf0_27_38 => ?_) (fun hf0_27_38 => ?_)
                    · refine z_iinc 4 (pc := 73) (v := x4_38 + 1) (lv' := [(4, .int (x4_38 + 1)), (0, .ref h_o), (1, .ref h_p1), (3, .int x3_27), (2, .int x2_38)]) dX0_countReached_73 rfl rfl (by decide) rfl ?_
                      refine z_goto (pc := 76) (tgt := 38) dX0_countReached_76 (by decide) ?_
                      exact z_lv [1, 2, 3, 4, 0] rfl (ih38 x2_38 (x4_38 + 1) r4.2 r4.1 o_marks_38 hf0_27_38)
                    · refine z_iload_n 3 (pc := 62) dX0_countReached_62 rfl ?_
                      refine z_aload_n 0 (pc := 63) dX0_countReached_63 rfl ?_
                      refine z_aload_n 0 (pc := 64) dX0_countReached_64 rfl ?_
                      obtain ⟨r6, er6, hf0_27_38⟩ := bp hf0_27_38
                      refine z_calliV (pc := 65) (As := []) (rest := [.ref h_o, .int x2_38]) (ws' := (wsX0_countReached cA h_o h_p1 h_o_marks h_p1_halfWidths h_o_disc h_o_kept h_o_targets h_o_heights o_side o_cells r4.1 p1_radius p1_feed o_marks_n o_marks_38 p1_halfWidths_n p1_halfWidths o_disc_n r4.2 o_kept_n o_kept o_targets_n o_targets o_heights_n o_heights)) (kX0_highestTargetInDisc l D cA h_o h_o_targets h_o_disc o_side o_cells (.ref h_o_heights) (.ref h_o_kept) (.ref h_o_marks) r4.1 o_targets_n o_targets o_disc_n r4.2  N r6 er6) ivX0_74 ⟨rfl, rfl⟩ ⟨by decide, by decide⟩ rfl ⟨Nat.zero_le _, Nat.zero_le _⟩ rfl rfl [0, 6, 4] rfl (by decide) rfl rfl rfl (Nat.le_of_ble_eq_true rfl) dX0_countReached_65 ?_
                      obtain ⟨r7, er7, hf0_27_38⟩ := bp hf0_27_38
                      refine z_calliV (pc := 68) (As := [.int r6]) (rest := [.int x2_38]) (ws' := (wsX0_countReached cA h_o h_p1 h_o_marks h_p1_halfWidths h_o_disc h_o_kept h_o_targets h_o_heights o_side o_cells r4.1 p1_radius p1_feed o_marks_n r7.2 p1_halfWidths_n p1_halfWidths o_disc_n r4.2 o_kept_n o_kept o_targets_n o_targets o_heights_n o_heights)) (kX0_markReached l D cA h_o h_o_disc h_o_marks h_o_targets h_o_heights o_side o_cells (.ref h_o_kept) r4.1 o_disc_n r4.2 o_marks_n o_marks_38 o_targets_n o_targets o_heights_n o_heights r6 N r7 er7) ivX0_78 ⟨rfl, rfl⟩ ⟨by decide, by decide⟩ rfl ⟨Nat.zero_le _, Nat.zero_le _⟩ rfl rfl [0, 4, 2, 6, 7] rfl (by decide) rfl rfl rfl (Nat.le_of_ble_eq_true rfl) dX0_countReached_68 ?_
                      refine z_iadd (pc := 71) dX0_countReached_71 ?_
                      refine z_istore_n (pc := 72) (lv' := [(2, .int (x2_38 + r7.1)), (0, .ref h_o), (1, .ref h_p1), (3, .int x3_27), (4, .int x4_38)]) dX0_countReached_72 (by decide) rfl ?_
                      refine z_iinc 4 (pc := 73) (v := x4_38 + 1) (lv' := [(4, .int (x4_38 + 1)), (2, .int (x2_38 + r7.1)), (0, .ref h_o), (1, .ref h_p1), (3, .int x3_27)]) dX0_countReached_73 rfl rfl (by decide) rfl ?_
                      refine z_goto (pc := 76) (tgt := 38) dX0_countReached_76 (by decide) ?_
                      exact z_lv [2, 3, 4, 1, 0] rfl (ih38 (x2_38 + r7.1) (x4_38 + 1) r4.2 r4.1 r7.2 hf0_27_38)
              exact z_lv [1, 2, 4, 3, 0] rfl (lp38 N x2_27 0 o_disc_27 o_discSize_27 o_marks_27 hf0_27_38)
        exact z_lv [2, 3, 1, 0] rfl (lp27 N 0 0 o_disc o_discSize o_marks_2 hf0_27)
      · refine z_aload_n 0 (pc := 10) dX0_countReached_10 rfl ?_
        refine z_get 0 5 (pc := 11) (v := .ref h_o_marks) rfl rfl inX0 (by decide) flX0_29 rfl dX0_countReached_11 ?_
        refine z_iload_n 2 (pc := 14) dX0_countReached_14 rfl ?_
        refine z_iconst (pc := 15) (v := 0) dX0_countReached_15 (by decide) ?_
        refine z_zastore 2 1 (pc := 16) (ws' := (wsX0_countReached cA h_o h_p1 h_o_marks h_p1_halfWidths h_o_disc h_o_kept h_o_targets h_o_heights o_side o_cells o_discSize p1_radius p1_feed o_marks_n (upd o_marks_2 x2_2.toNatClampNeg (vp_nar .boolean 0)) p1_halfWidths_n p1_halfWidths o_disc_n o_disc o_kept_n o_kept o_targets_n o_targets o_heights_n o_heights)) rfl rfl dX0_countReached_16 rfl hf0_2 (fun hf0_2 => ?_)
        refine z_iinc 2 (pc := 17) (v := x2_2 + 1) (lv' := [(2, .int (x2_2 + 1)), (0, .ref h_o), (1, .ref h_p1)]) dX0_countReached_17 rfl rfl (by decide) rfl ?_
        refine z_goto (pc := 20) (tgt := 2) dX0_countReached_20 (by decide) ?_
        exact z_lv [1, 2, 0] rfl (ih2 (x2_2 + 1) (upd o_marks_2 x2_2.toNatClampNeg (vp_nar .boolean 0)) hf0_2)
  exact z_lv [1, 2, 0] rfl (lp2 N 0 o_marks hf0_2)

abbrev RX5_halfWidthAt : Type := Int32
abbrev rmX5_halfWidthAt : Room := { frames := 0, cells := 0, slots := 0, locals := 0 }
abbrev wsX5_halfWidthAt (cA : Nat → ClassId)   : va_W := []
def LX5_halfWidthAt_4 (a1 : Int32) (a0 : Int32) : Nat → Int32 → Int32 → Option (Int32 × Int32)
  | 0, _, _ => none
  | n + 1, x2_4, x3_4 => (if a1 < x3_4 then some (x2_4, x3_4) else (if (a1 * a1) < ((x3_4 * x3_4) + (a0 * a0)) then LX5_halfWidthAt_4 a1 a0 n x2_4 (x3_4 + 1) else LX5_halfWidthAt_4 a1 a0 n x3_4 (x3_4 + 1)))
def fX5_halfWidthAt (N : Nat) (a0 : Int32) (a1 : Int32)  : Option RX5_halfWidthAt :=
  ((LX5_halfWidthAt_4 a1 a0 N 0 1).bind fun r1 => some r1.1)
set_option maxHeartbeats 4000000 in
set_option maxRecDepth 100000 in
theorem kX5_halfWidthAt (l : Launch) (D : va_G) (cA : Nat → ClassId)   (a0 : Int32) (a1 : Int32) (N : Nat) (res : RX5_halfWidthAt) (hf0 : fX5_halfWidthAt N a0 a1 = some res) : CtI l yX5_halfWidthAt (Cond.code yX5_halfWidthAt cX5_halfWidthAt 4 (some .int) :: tblG) rmX5_halfWidthAt D cA (wsX5_halfWidthAt cA ) [.int a0, .int a1] res (wsX5_halfWidthAt cA ) := by
  refine CtI.start (lv := [(0, .int a0), (1, .int a1)]) (by decide) (Nat.le_of_ble_eq_true rfl) rfl (fun κ hE => ?_)
  rw [fX5_halfWidthAt] at hf0
  refine z_iconst (pc := 0) (v := 0) dX5_halfWidthAt_0 (by decide) ?_
  refine z_istore_n (pc := 1) (lv' := [(2, .int 0), (0, .int a0), (1, .int a1)]) dX5_halfWidthAt_1 (by decide) rfl ?_
  refine z_iconst (pc := 2) (v := 1) dX5_halfWidthAt_2 (by decide) ?_
  refine z_istore_n (pc := 3) (lv' := [(3, .int 1), (2, .int 0), (0, .int a0), (1, .int a1)]) dX5_halfWidthAt_3 (by decide) rfl ?_
  obtain ⟨y4, hf0_4, hf0⟩ := bp hf0
  have lp4 : ∀ (n : Nat) (x2_4 : Int32) (x3_4 : Int32), LX5_halfWidthAt_4 a1 a0 n x2_4 x3_4 = some y4 → V κ l D cA rmX5_halfWidthAt cX5_halfWidthAt 4 RX5 (some .int) 0 0 4 [(0, .int a0), (1, .int a1), (2, .int x2_4), (3, .int x3_4)] [] (wsX5_halfWidthAt cA ) := by
    intro n
    induction n with
    | zero => intro x2_4 x3_4 hf0_4; rw [LX5_halfWidthAt_4] at hf0_4; cases hf0_4
    | succ n ih4 =>
      intro x2_4 x3_4 hf0_4
      rw [LX5_halfWidthAt_4] at hf0_4
      refine z_iload_n 3 (pc := 4) dX5_halfWidthAt_4 rfl ?_
      refine z_iload_n 1 (pc := 5) dX5_halfWidthAt_5 rfl ?_
      refine z_icmp_gt (pc := 6) (tgt := 30) dX5_halfWidthAt_6 (by decide) hf0_4 (fun hf0_4 => ?_) (fun hf0_4 => ?_)
      · obtain rfl := Option.some.inj hf0_4
        refine z_iload_n 2 (pc := 30) dX5_halfWidthAt_30 rfl ?_
        obtain rfl := Option.some.inj hf0
        exact z_iret hE dX5_halfWidthAt_31
      · refine z_iload_n 3 (pc := 9) dX5_halfWidthAt_9 rfl ?_
        refine z_iload_n 3 (pc := 10) dX5_halfWidthAt_10 rfl ?_
        refine z_imul (pc := 11) dX5_halfWidthAt_11 ?_
        refine z_iload_n 0 (pc := 12) dX5_halfWidthAt_12 rfl ?_
        refine z_iload_n 0 (pc := 13) dX5_halfWidthAt_13 rfl ?_
        refine z_imul (pc := 14) dX5_halfWidthAt_14 ?_
        refine z_iadd (pc := 15) dX5_halfWidthAt_15 ?_
        refine z_iload_n 1 (pc := 16) dX5_halfWidthAt_16 rfl ?_
        refine z_iload_n 1 (pc := 17) dX5_halfWidthAt_17 rfl ?_
        refine z_imul (pc := 18) dX5_halfWidthAt_18 ?_
        refine z_icmp_gt (pc := 19) (tgt := 24) dX5_halfWidthAt_19 (by decide) hf0_4 (fun hf0_4 => ?_) (fun hf0_4 => ?_)
        · refine z_iinc 3 (pc := 24) (v := x3_4 + 1) (lv' := [(3, .int (x3_4 + 1)), (0, .int a0), (1, .int a1), (2, .int x2_4)]) dX5_halfWidthAt_24 rfl rfl (by decide) rfl ?_
          refine z_goto (pc := 27) (tgt := 4) dX5_halfWidthAt_27 (by decide) ?_
          exact z_lv [1, 2, 3, 0] rfl (ih4 x2_4 (x3_4 + 1) hf0_4)
        · refine z_iload_n 3 (pc := 22) dX5_halfWidthAt_22 rfl ?_
          refine z_istore_n (pc := 23) (lv' := [(2, .int x3_4), (0, .int a0), (1, .int a1), (3, .int x3_4)]) dX5_halfWidthAt_23 (by decide) rfl ?_
          refine z_iinc 3 (pc := 24) (v := x3_4 + 1) (lv' := [(3, .int (x3_4 + 1)), (2, .int x3_4), (0, .int a0), (1, .int a1)]) dX5_halfWidthAt_24 rfl rfl (by decide) rfl ?_
          refine z_goto (pc := 27) (tgt := 4) dX5_halfWidthAt_27 (by decide) ?_
          exact z_lv [2, 3, 1, 0] rfl (ih4 x3_4 (x3_4 + 1) hf0_4)
  exact z_lv [2, 3, 1, 0] rfl (lp4 N 0 1 hf0_4)

abbrev RX5_become : Type := Int32 × Int32 × (Nat → Int32)
abbrev rmX5_become : Room := { frames := 1, cells := 0, slots := 0, locals := 23 }
abbrev wsX5_become (cA : Nat → ClassId) (h_o : Nat) (h_o_halfWidths : Nat) (o_radius : Int32) (o_feed : Int32) (o_halfWidths_n : Nat) (o_halfWidths : Nat → Int32) : va_W := [(h_o, .inr (5, [.int o_radius, .int o_feed, .ref h_o_halfWidths])), (h_o_halfWidths, .inl (cA 0, o_halfWidths_n, .inl o_halfWidths))]
def LX5_become_12 (N : Nat) (a1 : Int32) (o_halfWidths_n : Nat) : Nat → Int32 → (Nat → Int32) → Option (Int32 × (Nat → Int32))
  | 0, _, _ => none
  | n + 1, x3_12, o_halfWidths_12 => (if 6 < x3_12 then some (x3_12, o_halfWidths_12) else ((fX5_halfWidthAt N x3_12 a1).bind fun r2 => (if x3_12 < 0 ∨ o_halfWidths_n ≤ x3_12.toNatClampNeg then none else LX5_become_12 N a1 o_halfWidths_n n (x3_12 + 1) (upd o_halfWidths_12 x3_12.toNatClampNeg r2))))
def fX5_become (N : Nat) (a1 : Int32) (a2 : Int32) (o_radius : Int32) (o_feed : Int32) (o_halfWidths_n : Nat) (o_halfWidths : Nat → Int32) : Option RX5_become :=
  ((LX5_become_12 N a1 o_halfWidths_n N 0 o_halfWidths).bind fun r1 => some (a1, a2, r1.2))
set_option maxHeartbeats 4000000 in
set_option maxRecDepth 100000 in
theorem kX5_become (l : Launch) (D : va_G) (cA : Nat → ClassId) (h_o : Nat) (h_o_halfWidths : Nat) (o_radius : Int32) (o_feed : Int32) (o_halfWidths_n : Nat) (o_halfWidths : Nat → Int32) (a1 : Int32) (a2 : Int32) (N : Nat) (res : RX5_become) (hf0 : fX5_become N a1 a2 o_radius o_feed o_halfWidths_n o_halfWidths = some res) : CtV l yX5_become (Cond.code yX5_become cX5_become 4 (none) :: tblG) rmX5_become D cA (wsX5_become cA h_o h_o_halfWidths o_radius o_feed o_halfWidths_n o_halfWidths) [.ref h_o, .int a1, .int a2] (wsX5_become cA h_o h_o_halfWidths res.1 res.2.1 o_halfWidths_n res.2.2) := by
  refine CtV.start (lv := [(0, .ref h_o), (1, .int a1), (2, .int a2)]) (by decide) (Nat.le_of_ble_eq_true rfl) rfl (fun κ hE => ?_)
  rw [fX5_become] at hf0
  refine z_aload_n 0 (pc := 0) dX5_become_0 rfl ?_
  refine z_iload_n 1 (pc := 1) dX5_become_1 rfl ?_
  refine z_put 0 0 (pc := 2) (ws' := (wsX5_become cA h_o h_o_halfWidths a1 o_feed o_halfWidths_n o_halfWidths)) rfl rfl inX5 tyX5 tyX5_ok nmX5 (by decide) flX5_9 rfl rfl rfl rfl (Nat.le_of_ble_eq_true rfl) dX5_become_2 rfl ?_
  refine z_aload_n 0 (pc := 5) dX5_become_5 rfl ?_
  refine z_iload_n 2 (pc := 6) dX5_become_6 rfl ?_
  refine z_put 0 1 (pc := 7) (ws' := (wsX5_become cA h_o h_o_halfWidths a1 a2 o_halfWidths_n o_halfWidths)) rfl rfl inX5 tyX5 tyX5_ok nmX5 (by decide) flX5_15 rfl rfl rfl rfl (Nat.le_of_ble_eq_true rfl) dX5_become_7 rfl ?_
  refine z_iconst (pc := 10) (v := 0) dX5_become_10 (by decide) ?_
  refine z_istore_n (pc := 11) (lv' := [(3, .int 0), (0, .ref h_o), (1, .int a1), (2, .int a2)]) dX5_become_11 (by decide) rfl ?_
  obtain ⟨y12, hf0_12, hf0⟩ := bp hf0
  have lp12 : ∀ (n : Nat) (x3_12 : Int32) (o_halfWidths_12 : Nat → Int32), LX5_become_12 N a1 o_halfWidths_n n x3_12 o_halfWidths_12 = some y12 → V κ l D cA rmX5_become cX5_become 4 RX5 (none) 0 0 12 [(0, .ref h_o), (1, .int a1), (2, .int a2), (3, .int x3_12)] [] (wsX5_become cA h_o h_o_halfWidths a1 a2 o_halfWidths_n o_halfWidths_12) := by
    intro n
    induction n with
    | zero => intro x3_12 o_halfWidths_12 hf0_12; rw [LX5_become_12] at hf0_12; cases hf0_12
    | succ n ih12 =>
      intro x3_12 o_halfWidths_12 hf0_12
      rw [LX5_become_12] at hf0_12
      refine z_iload_n 3 (pc := 12) dX5_become_12 rfl ?_
      refine z_bipush (pc := 13) (v := 6) dX5_become_13 (by decide) ?_
      refine z_icmp_gt (pc := 15) (tgt := 35) dX5_become_15 (by decide) hf0_12 (fun hf0_12 => ?_) (fun hf0_12 => ?_)
      · obtain rfl := Option.some.inj hf0_12
        obtain rfl := Option.some.inj hf0
        exact z_vret hE dX5_become_35
      · refine z_aload_n 0 (pc := 18) dX5_become_18 rfl ?_
        refine z_get 0 2 (pc := 19) (v := .ref h_o_halfWidths) rfl rfl inX5 (by decide) flX5_18 rfl dX5_become_19 ?_
        refine z_iload_n 3 (pc := 22) dX5_become_22 rfl ?_
        refine z_iload_n 3 (pc := 23) dX5_become_23 rfl ?_
        refine z_iload_n 1 (pc := 24) dX5_become_24 rfl ?_
        obtain ⟨r2, er2, hf0_12⟩ := bp hf0_12
        refine z_calliS (pc := 25) (As := [.int x3_12, .int a1]) (rest := [.int x3_12, .ref h_o_halfWidths]) (ws' := (wsX5_become cA h_o h_o_halfWidths a1 a2 o_halfWidths_n o_halfWidths_12)) (kX5_halfWidthAt l D cA   x3_12 a1 N r2 er2) ivX5_22 ⟨rfl, rfl⟩ ⟨by decide, by decide⟩ rfl ⟨Nat.zero_le _, Nat.zero_le _⟩ [] rfl (by decide) rfl rfl rfl (Nat.le_of_ble_eq_true rfl) dX5_become_25 ?_
        refine z_iastore 1 0 (pc := 28) (ws' := (wsX5_become cA h_o h_o_halfWidths a1 a2 o_halfWidths_n (upd o_halfWidths_12 x3_12.toNatClampNeg r2))) rfl rfl dX5_become_28 rfl hf0_12 (fun hf0_12 => ?_)
        refine z_iinc 3 (pc := 29) (v := x3_12 + 1) (lv' := [(3, .int (x3_12 + 1)), (0, .ref h_o), (1, .int a1), (2, .int a2)]) dX5_become_29 rfl rfl (by decide) rfl ?_
        refine z_goto (pc := 32) (tgt := 12) dX5_become_32 (by decide) ?_
        exact z_lv [1, 2, 3, 0] rfl (ih12 (x3_12 + 1) (upd o_halfWidths_12 x3_12.toNatClampNeg r2) hf0_12)
  exact z_lv [1, 2, 3, 0] rfl (lp12 N 0 o_halfWidths hf0_12)
end
