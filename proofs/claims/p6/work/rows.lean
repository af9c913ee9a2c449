section
-- ===== PART A: goes FIRST, ahead of the names: the tables' words, and 'selects' of the private methods out of them =====
/-- a private method of a class that the tables say can be made, by its rows of tables_1 -/
def lw_okq (q : MethodName × Nat) : Prop := (q.1.cls ≠ "java/lang/invoke/MethodHandle" ∧ q.1.cls ≠ "java/lang/invoke/VarHandle") ∧ Cond.instantiable q.1.cls q.2 ∈ tables_1 ∧ Cond.privateMethod q.1 ∈ tables_1 ∧ Cond.instanceMethod q.1 ∈ tables_1
theorem lw_p0 : lw_okq (⟨"WavePairs", "rowOf", "(II)LWavePairs$Row;"⟩, 11) := ⟨⟨by decide +kernel, by decide +kernel⟩, List.mem_of_getElem? (i := 11) (by decide +kernel), List.mem_of_getElem? (i := 210) (by decide +kernel), List.mem_of_getElem? (i := 211) (by decide +kernel)⟩
theorem lw_p1 : lw_okq (⟨"WavePairs", "seekDifferences", "(II)V"⟩, 11) := ⟨⟨by decide +kernel, by decide +kernel⟩, List.mem_of_getElem? (i := 11) (by decide +kernel), List.mem_of_getElem? (i := 318) (by decide +kernel), List.mem_of_getElem? (i := 319) (by decide +kernel)⟩
theorem lw_p2 : lw_okq (⟨"WavePairs", "namedRow", "(II)LWavePairs$Row;"⟩, 11) := ⟨⟨by decide +kernel, by decide +kernel⟩, List.mem_of_getElem? (i := 11) (by decide +kernel), List.mem_of_getElem? (i := 333) (by decide +kernel), List.mem_of_getElem? (i := 334) (by decide +kernel)⟩
theorem lw_p3 : lw_okq (⟨"WavePairs$Spans", "stop", "(II)I"⟩, 5) := ⟨⟨by decide +kernel, by decide +kernel⟩, List.mem_of_getElem? (i := 27) (by decide +kernel), List.mem_of_getElem? (i := 374) (by decide +kernel), List.mem_of_getElem? (i := 375) (by decide +kernel)⟩
theorem lw_p4 : lw_okq (⟨"WavePairs", "nextAct", "(LWavePairs$Channel;II)I"⟩, 11) := ⟨⟨by decide +kernel, by decide +kernel⟩, List.mem_of_getElem? (i := 11) (by decide +kernel), List.mem_of_getElem? (i := 408) (by decide +kernel), List.mem_of_getElem? (i := 409) (by decide +kernel)⟩
theorem lw_p5 : lw_okq (⟨"WavePairs$Row", "isEdge", "(I)Z"⟩, 3) := ⟨⟨by decide +kernel, by decide +kernel⟩, List.mem_of_getElem? (i := 40) (by decide +kernel), List.mem_of_getElem? (i := 416) (by decide +kernel), List.mem_of_getElem? (i := 417) (by decide +kernel)⟩
theorem lw_p6 : lw_okq (⟨"WavePairs", "hadOneAhead", "(III)Z"⟩, 11) := ⟨⟨by decide +kernel, by decide +kernel⟩, List.mem_of_getElem? (i := 11) (by decide +kernel), List.mem_of_getElem? (i := 420) (by decide +kernel), List.mem_of_getElem? (i := 421) (by decide +kernel)⟩
theorem lw_p7 : lw_okq (⟨"WavePairs", "dataAhead", "(LWavePairs$Channel;II)I"⟩, 11) := ⟨⟨by decide +kernel, by decide +kernel⟩, List.mem_of_getElem? (i := 11) (by decide +kernel), List.mem_of_getElem? (i := 424) (by decide +kernel), List.mem_of_getElem? (i := 425) (by decide +kernel)⟩
theorem lw_p8 : lw_okq (⟨"WavePairs", "hasSignals", "(I)Z"⟩, 11) := ⟨⟨by decide +kernel, by decide +kernel⟩, List.mem_of_getElem? (i := 11) (by decide +kernel), List.mem_of_getElem? (i := 437) (by decide +kernel), List.mem_of_getElem? (i := 438) (by decide +kernel)⟩
theorem lw_p9 : lw_okq (⟨"WavePairs", "fitsBy", "(II)Z"⟩, 11) := ⟨⟨by decide +kernel, by decide +kernel⟩, List.mem_of_getElem? (i := 11) (by decide +kernel), List.mem_of_getElem? (i := 441) (by decide +kernel), List.mem_of_getElem? (i := 442) (by decide +kernel)⟩
theorem lw_p10 : lw_okq (⟨"WavePairs", "agreeAt", "(II)Z"⟩, 11) := ⟨⟨by decide +kernel, by decide +kernel⟩, List.mem_of_getElem? (i := 11) (by decide +kernel), List.mem_of_getElem? (i := 461) (by decide +kernel), List.mem_of_getElem? (i := 462) (by decide +kernel)⟩
theorem lw_p11 : lw_okq (⟨"WavePairs", "inputsAgree", "(LWavePairs$Gate;I)Z"⟩, 11) := ⟨⟨by decide +kernel, by decide +kernel⟩, List.mem_of_getElem? (i := 11) (by decide +kernel), List.mem_of_getElem? (i := 465) (by decide +kernel), List.mem_of_getElem? (i := 466) (by decide +kernel)⟩
theorem lw_p12 : lw_okq (⟨"WavePairs", "storedAgree", "(LWavePairs$Gate;I)Z"⟩, 11) := ⟨⟨by decide +kernel, by decide +kernel⟩, List.mem_of_getElem? (i := 11) (by decide +kernel), List.mem_of_getElem? (i := 469) (by decide +kernel), List.mem_of_getElem? (i := 470) (by decide +kernel)⟩
theorem lw_p13 : lw_okq (⟨"WavePairs$Row", "ticksWithin", "(III)I"⟩, 3) := ⟨⟨by decide +kernel, by decide +kernel⟩, List.mem_of_getElem? (i := 40) (by decide +kernel), List.mem_of_getElem? (i := 498) (by decide +kernel), List.mem_of_getElem? (i := 499) (by decide +kernel)⟩
theorem lw_p14 : lw_okq (⟨"WavePairs", "countChanges", "()I"⟩, 11) := ⟨⟨by decide +kernel, by decide +kernel⟩, List.mem_of_getElem? (i := 11) (by decide +kernel), List.mem_of_getElem? (i := 512) (by decide +kernel), List.mem_of_getElem? (i := 513) (by decide +kernel)⟩
theorem lw_p15 : lw_okq (⟨"WavePairs", "countChannels", "()I"⟩, 11) := ⟨⟨by decide +kernel, by decide +kernel⟩, List.mem_of_getElem? (i := 11) (by decide +kernel), List.mem_of_getElem? (i := 516) (by decide +kernel), List.mem_of_getElem? (i := 517) (by decide +kernel)⟩
def lw_privs_1 : List (MethodName × Nat) := [(⟨"WavePairs", "rowOf", "(II)LWavePairs$Row;"⟩, 11), (⟨"WavePairs", "seekDifferences", "(II)V"⟩, 11), (⟨"WavePairs", "namedRow", "(II)LWavePairs$Row;"⟩, 11), (⟨"WavePairs$Spans", "stop", "(II)I"⟩, 5), (⟨"WavePairs", "nextAct", "(LWavePairs$Channel;II)I"⟩, 11), (⟨"WavePairs$Row", "isEdge", "(I)Z"⟩, 3), (⟨"WavePairs", "hadOneAhead", "(III)Z"⟩, 11), (⟨"WavePairs", "dataAhead", "(LWavePairs$Channel;II)I"⟩, 11), (⟨"WavePairs", "hasSignals", "(I)Z"⟩, 11), (⟨"WavePairs", "fitsBy", "(II)Z"⟩, 11), (⟨"WavePairs", "agreeAt", "(II)Z"⟩, 11), (⟨"WavePairs", "inputsAgree", "(LWavePairs$Gate;I)Z"⟩, 11), (⟨"WavePairs", "storedAgree", "(LWavePairs$Gate;I)Z"⟩, 11), (⟨"WavePairs$Row", "ticksWithin", "(III)I"⟩, 3), (⟨"WavePairs", "countChanges", "()I"⟩, 11), (⟨"WavePairs", "countChannels", "()I"⟩, 11)]
theorem lw_r1 : ∀ q ∈ lw_privs_1, lw_okq q := List.forall_mem_cons.mpr ⟨lw_p0, List.forall_mem_cons.mpr ⟨lw_p1, List.forall_mem_cons.mpr ⟨lw_p2, List.forall_mem_cons.mpr ⟨lw_p3, List.forall_mem_cons.mpr ⟨lw_p4, List.forall_mem_cons.mpr ⟨lw_p5, List.forall_mem_cons.mpr ⟨lw_p6, List.forall_mem_cons.mpr ⟨lw_p7, List.forall_mem_cons.mpr ⟨lw_p8, List.forall_mem_cons.mpr ⟨lw_p9, List.forall_mem_cons.mpr ⟨lw_p10, List.forall_mem_cons.mpr ⟨lw_p11, List.forall_mem_cons.mpr ⟨lw_p12, List.forall_mem_cons.mpr ⟨lw_p13, List.forall_mem_cons.mpr ⟨lw_p14, List.forall_mem_cons.mpr ⟨lw_p15, fun _ h => absurd h List.not_mem_nil⟩⟩⟩⟩⟩⟩⟩⟩⟩⟩⟩⟩⟩⟩⟩⟩
theorem lw_p16 : lw_okq (⟨"WavePairs", "countGates", "()I"⟩, 11) := ⟨⟨by decide +kernel, by decide +kernel⟩, List.mem_of_getElem? (i := 11) (by decide +kernel), List.mem_of_getElem? (i := 520) (by decide +kernel), List.mem_of_getElem? (i := 521) (by decide +kernel)⟩
theorem lw_p17 : lw_okq (⟨"WavePairsModel", "last", "(I)I"⟩, 23) := ⟨⟨by decide +kernel, by decide +kernel⟩, List.mem_of_getElem? (i := 524) (by decide +kernel), List.mem_of_getElem? (i := 614) (by decide +kernel), List.mem_of_getElem? (i := 615) (by decide +kernel)⟩
theorem lw_p18 : lw_okq (⟨"WavePairsModel", "lays", "(III)V"⟩, 23) := ⟨⟨by decide +kernel, by decide +kernel⟩, List.mem_of_getElem? (i := 524) (by decide +kernel), List.mem_of_getElem? (i := 618) (by decide +kernel), List.mem_of_getElem? (i := 619) (by decide +kernel)⟩
theorem lw_p19 : lw_okq (⟨"WavePairsModel", "at", "(III)I"⟩, 23) := ⟨⟨by decide +kernel, by decide +kernel⟩, List.mem_of_getElem? (i := 524) (by decide +kernel), List.mem_of_getElem? (i := 635) (by decide +kernel), List.mem_of_getElem? (i := 636) (by decide +kernel)⟩
theorem lw_p20 : lw_okq (⟨"WavePairsModel", "masked", "(IIII)I"⟩, 23) := ⟨⟨by decide +kernel, by decide +kernel⟩, List.mem_of_getElem? (i := 524) (by decide +kernel), List.mem_of_getElem? (i := 655) (by decide +kernel), List.mem_of_getElem? (i := 656) (by decide +kernel)⟩
theorem lw_p21 : lw_okq (⟨"WavePairsModel", "spans", "(I)I"⟩, 23) := ⟨⟨by decide +kernel, by decide +kernel⟩, List.mem_of_getElem? (i := 524) (by decide +kernel), List.mem_of_getElem? (i := 671) (by decide +kernel), List.mem_of_getElem? (i := 672) (by decide +kernel)⟩
theorem lw_p22 : lw_okq (⟨"WavePairsModel", "differs", "(III)Z"⟩, 23) := ⟨⟨by decide +kernel, by decide +kernel⟩, List.mem_of_getElem? (i := 524) (by decide +kernel), List.mem_of_getElem? (i := 675) (by decide +kernel), List.mem_of_getElem? (i := 676) (by decide +kernel)⟩
theorem lw_p23 : lw_okq (⟨"WavePairsModel", "agree", "(II)Z"⟩, 23) := ⟨⟨by decide +kernel, by decide +kernel⟩, List.mem_of_getElem? (i := 524) (by decide +kernel), List.mem_of_getElem? (i := 679) (by decide +kernel), List.mem_of_getElem? (i := 680) (by decide +kernel)⟩
theorem lw_p24 : lw_okq (⟨"WavePairsModel", "isMasked", "(II)Z"⟩, 23) := ⟨⟨by decide +kernel, by decide +kernel⟩, List.mem_of_getElem? (i := 524) (by decide +kernel), List.mem_of_getElem? (i := 683) (by decide +kernel), List.mem_of_getElem? (i := 684) (by decide +kernel)⟩
theorem lw_p25 : lw_okq (⟨"WavePairsModel", "found", "(IIIII)I"⟩, 23) := ⟨⟨by decide +kernel, by decide +kernel⟩, List.mem_of_getElem? (i := 524) (by decide +kernel), List.mem_of_getElem? (i := 687) (by decide +kernel), List.mem_of_getElem? (i := 688) (by decide +kernel)⟩
theorem lw_p26 : lw_okq (⟨"WavePairsModel", "next", "(III)I"⟩, 23) := ⟨⟨by decide +kernel, by decide +kernel⟩, List.mem_of_getElem? (i := 524) (by decide +kernel), List.mem_of_getElem? (i := 691) (by decide +kernel), List.mem_of_getElem? (i := 692) (by decide +kernel)⟩
theorem lw_p27 : lw_okq (⟨"WavePairsModel", "nextChange", "(III)I"⟩, 23) := ⟨⟨by decide +kernel, by decide +kernel⟩, List.mem_of_getElem? (i := 524) (by decide +kernel), List.mem_of_getElem? (i := 695) (by decide +kernel), List.mem_of_getElem? (i := 696) (by decide +kernel)⟩
theorem lw_p28 : lw_okq (⟨"WavePairsModel", "acts", "(III)I"⟩, 23) := ⟨⟨by decide +kernel, by decide +kernel⟩, List.mem_of_getElem? (i := 524) (by decide +kernel), List.mem_of_getElem? (i := 719) (by decide +kernel), List.mem_of_getElem? (i := 720) (by decide +kernel)⟩
theorem lw_p29 : lw_okq (⟨"WavePairsModel", "called", "(II)I"⟩, 23) := ⟨⟨by decide +kernel, by decide +kernel⟩, List.mem_of_getElem? (i := 524) (by decide +kernel), List.mem_of_getElem? (i := 723) (by decide +kernel), List.mem_of_getElem? (i := 724) (by decide +kernel)⟩
theorem lw_p30 : lw_okq (⟨"WavePairsModel", "isEdge", "(III)Z"⟩, 23) := ⟨⟨by decide +kernel, by decide +kernel⟩, List.mem_of_getElem? (i := 524) (by decide +kernel), List.mem_of_getElem? (i := 727) (by decide +kernel), List.mem_of_getElem? (i := 728) (by decide +kernel)⟩
theorem lw_p31 : lw_okq (⟨"WavePairsModel", "fits", "(II)Z"⟩, 23) := ⟨⟨by decide +kernel, by decide +kernel⟩, List.mem_of_getElem? (i := 524) (by decide +kernel), List.mem_of_getElem? (i := 739) (by decide +kernel), List.mem_of_getElem? (i := 740) (by decide +kernel)⟩
def lw_privs_2 : List (MethodName × Nat) := [(⟨"WavePairs", "countGates", "()I"⟩, 11), (⟨"WavePairsModel", "last", "(I)I"⟩, 23), (⟨"WavePairsModel", "lays", "(III)V"⟩, 23), (⟨"WavePairsModel", "at", "(III)I"⟩, 23), (⟨"WavePairsModel", "masked", "(IIII)I"⟩, 23), (⟨"WavePairsModel", "spans", "(I)I"⟩, 23), (⟨"WavePairsModel", "differs", "(III)Z"⟩, 23), (⟨"WavePairsModel", "agree", "(II)Z"⟩, 23), (⟨"WavePairsModel", "isMasked", "(II)Z"⟩, 23), (⟨"WavePairsModel", "found", "(IIIII)I"⟩, 23), (⟨"WavePairsModel", "next", "(III)I"⟩, 23), (⟨"WavePairsModel", "nextChange", "(III)I"⟩, 23), (⟨"WavePairsModel", "acts", "(III)I"⟩, 23), (⟨"WavePairsModel", "called", "(II)I"⟩, 23), (⟨"WavePairsModel", "isEdge", "(III)Z"⟩, 23), (⟨"WavePairsModel", "fits", "(II)Z"⟩, 23)]
theorem lw_r2 : ∀ q ∈ lw_privs_2, lw_okq q := List.forall_mem_cons.mpr ⟨lw_p16, List.forall_mem_cons.mpr ⟨lw_p17, List.forall_mem_cons.mpr ⟨lw_p18, List.forall_mem_cons.mpr ⟨lw_p19, List.forall_mem_cons.mpr ⟨lw_p20, List.forall_mem_cons.mpr ⟨lw_p21, List.forall_mem_cons.mpr ⟨lw_p22, List.forall_mem_cons.mpr ⟨lw_p23, List.forall_mem_cons.mpr ⟨lw_p24, List.forall_mem_cons.mpr ⟨lw_p25, List.forall_mem_cons.mpr ⟨lw_p26, List.forall_mem_cons.mpr ⟨lw_p27, List.forall_mem_cons.mpr ⟨lw_p28, List.forall_mem_cons.mpr ⟨lw_p29, List.forall_mem_cons.mpr ⟨lw_p30, List.forall_mem_cons.mpr ⟨lw_p31, fun _ h => absurd h List.not_mem_nil⟩⟩⟩⟩⟩⟩⟩⟩⟩⟩⟩⟩⟩⟩⟩⟩
theorem lw_p32 : lw_okq (⟨"WavePairsModel", "agreeAt", "(II)Z"⟩, 23) := ⟨⟨by decide +kernel, by decide +kernel⟩, List.mem_of_getElem? (i := 524) (by decide +kernel), List.mem_of_getElem? (i := 751) (by decide +kernel), List.mem_of_getElem? (i := 752) (by decide +kernel)⟩
theorem lw_p33 : lw_okq (⟨"WavePairsModel", "inputsAgree", "(II)Z"⟩, 23) := ⟨⟨by decide +kernel, by decide +kernel⟩, List.mem_of_getElem? (i := 524) (by decide +kernel), List.mem_of_getElem? (i := 755) (by decide +kernel), List.mem_of_getElem? (i := 756) (by decide +kernel)⟩
theorem lw_p34 : lw_okq (⟨"WavePairsModel", "edge", "(III)I"⟩, 23) := ⟨⟨by decide +kernel, by decide +kernel⟩, List.mem_of_getElem? (i := 524) (by decide +kernel), List.mem_of_getElem? (i := 759) (by decide +kernel), List.mem_of_getElem? (i := 760) (by decide +kernel)⟩
theorem lw_p35 : lw_okq (⟨"WavePairsModel", "behave", "(II)Z"⟩, 23) := ⟨⟨by decide +kernel, by decide +kernel⟩, List.mem_of_getElem? (i := 524) (by decide +kernel), List.mem_of_getElem? (i := 767) (by decide +kernel), List.mem_of_getElem? (i := 768) (by decide +kernel)⟩
def lw_privs_3 : List (MethodName × Nat) := [(⟨"WavePairsModel", "agreeAt", "(II)Z"⟩, 23), (⟨"WavePairsModel", "inputsAgree", "(II)Z"⟩, 23), (⟨"WavePairsModel", "edge", "(III)I"⟩, 23), (⟨"WavePairsModel", "behave", "(II)Z"⟩, 23)]
theorem lw_r3 : ∀ q ∈ lw_privs_3, lw_okq q := List.forall_mem_cons.mpr ⟨lw_p32, List.forall_mem_cons.mpr ⟨lw_p33, List.forall_mem_cons.mpr ⟨lw_p34, List.forall_mem_cons.mpr ⟨lw_p35, fun _ h => absurd h List.not_mem_nil⟩⟩⟩⟩
def lw_privs : List (MethodName × Nat) := lw_privs_1 ++ (lw_privs_2 ++ (lw_privs_3))
def lw_tbl : List Cond := k2_sels lw_privs ++ tables_1
theorem lw_privs_ok : ∀ q ∈ lw_privs, lw_okq q := by
  show ∀ q ∈ lw_privs_1 ++ (lw_privs_2 ++ (lw_privs_3)), lw_okq q
  exact List.forall_mem_append.mpr ⟨lw_r1, List.forall_mem_append.mpr ⟨lw_r2, lw_r3⟩⟩
-- ===== end of PART A; then your names; then what follows =====
end
section
def RX0 : String := "WavePairs$Channel"
def TX0 : u_T := fun k => match k with
  | 0 => ("WavePairs$Channel", "isTold", "Z", false)
  | 1 => ("WavePairs$Channel", "clock", "I", false)
  | 2 => ("WavePairs$Channel", "valid", "I", false)
  | 3 => ("WavePairs$Channel", "ready", "I", false)
  | _ => ("WavePairs$Channel", "data", "I", false)
def tyX0 : Nat → FieldType := fun k => match k with
  | 0 => .boolean
  | 1 => .int
  | 2 => .int
  | 3 => .int
  | _ => .int
abbrev wsX00 : List Cond := u_ws RX0 TX0 5
theorem nmX0 : ∀ a, a < 5 → ∀ b, b < 5 → a ≠ b → (TX0 a).2.1 ≠ (TX0 b).2.1 := by decide +kernel
theorem tyX0_ok : ∀ k, k < 5 → parseFieldDescriptor (TX0 k).2.2.1 = some (tyX0 k) := by decide +kernel
abbrev cX0_init : ByteArray := prog_2_method_1_code
def yX0_init : MethodName := ⟨RX0, "<init>", "()V"⟩
abbrev cX0_tell : ByteArray := prog_2_method_2_code
def yX0_tell : MethodName := ⟨RX0, "tell", "(IIII)V"⟩
def RX1 : String := "WavePairs$Gate"
def TX1 : u_T := fun k => match k with
  | 0 => ("WavePairs$Gate", "kind", "I", false)
  | 1 => ("WavePairs$Gate", "a", "I", false)
  | _ => ("WavePairs$Gate", "b", "I", false)
def tyX1 : Nat → FieldType := fun k => match k with
  | 0 => .int
  | 1 => .int
  | _ => .int
abbrev wsX10 : List Cond := u_ws RX1 TX1 3
theorem nmX1 : ∀ a, a < 3 → ∀ b, b < 3 → a ≠ b → (TX1 a).2.1 ≠ (TX1 b).2.1 := by decide +kernel
theorem tyX1_ok : ∀ k, k < 3 → parseFieldDescriptor (TX1 k).2.2.1 = some (tyX1 k) := by decide +kernel
abbrev cX1_init : ByteArray := prog_3_method_1_code
def yX1_init : MethodName := ⟨RX1, "<init>", "()V"⟩
abbrev cX1_tell : ByteArray := prog_3_method_2_code
def yX1_tell : MethodName := ⟨RX1, "tell", "(III)V"⟩
def RX2 : String := "WavePairs$Mask"
def TX2 : u_T := fun k => match k with
  | 0 => ("WavePairs$Mask", "ticks", "LWavePairs$Row;", true)
  | 1 => ("WavePairs$Mask", "signal", "I", false)
  | 2 => ("WavePairs$Mask", "row", "LWavePairs$Row;", false)
  | _ => ("WavePairs$Mask", "value", "I", false)
def tyX2 : Nat → FieldType := fun k => match k with
  | 0 => .object "WavePairs$Row"
  | 1 => .int
  | 2 => .object "WavePairs$Row"
  | _ => .int
abbrev wsX20 : List Cond := u_ws RX2 TX2 4
theorem nmX2 : ∀ a, a < 4 → ∀ b, b < 4 → a ≠ b → (TX2 a).2.1 ≠ (TX2 b).2.1 := by decide +kernel
theorem tyX2_ok : ∀ k, k < 4 → parseFieldDescriptor (TX2 k).2.2.1 = some (tyX2 k) := by decide +kernel
abbrev cX2_init : ByteArray := prog_4_method_1_code
def yX2_init : MethodName := ⟨RX2, "<init>", "()V"⟩
abbrev cX2_coverTicks : ByteArray := prog_4_method_2_code
def yX2_coverTicks : MethodName := ⟨RX2, "coverTicks", "(III)V"⟩
abbrev cX2_coverWhile : ByteArray := prog_4_method_3_code
def yX2_coverWhile : MethodName := ⟨RX2, "coverWhile", "(ILWavePairs$Row;I)V"⟩
def RX3 : String := "WavePairs$Pair"
def TX3 : u_T := fun k => match k with
  | 0 => ("WavePairs$Pair", "steady", "LWavePairs$Row;", true)
  | 1 => ("WavePairs$Pair", "left", "LWavePairs$Row;", false)
  | 2 => ("WavePairs$Pair", "right", "LWavePairs$Row;", false)
  | 3 => ("WavePairs$Pair", "lag", "I", false)
  | 4 => ("WavePairs$Pair", "isLoose", "Z", false)
  | _ => ("WavePairs$Pair", "wantsAlike", "Z", false)
def tyX3 : Nat → FieldType := fun k => match k with
  | 0 => .object "WavePairs$Row"
  | 1 => .object "WavePairs$Row"
  | 2 => .object "WavePairs$Row"
  | 3 => .int
  | 4 => .boolean
  | _ => .boolean
abbrev wsX30 : List Cond := u_ws RX3 TX3 6
theorem nmX3 : ∀ a, a < 6 → ∀ b, b < 6 → a ≠ b → (TX3 a).2.1 ≠ (TX3 b).2.1 := by decide +kernel
theorem tyX3_ok : ∀ k, k < 6 → parseFieldDescriptor (TX3 k).2.2.1 = some (tyX3 k) := by decide +kernel
abbrev cX3_init : ByteArray := prog_5_method_1_code
def yX3_init : MethodName := ⟨RX3, "<init>", "()V"⟩
abbrev cX3_wantUnlike : ByteArray := prog_5_method_2_code
def yX3_wantUnlike : MethodName := ⟨RX3, "wantUnlike", "(LWavePairs$Row;LWavePairs$Row;IZ)V"⟩
abbrev cX3_wantValue : ByteArray := prog_5_method_3_code
def yX3_wantValue : MethodName := ⟨RX3, "wantValue", "(LWavePairs$Row;I)V"⟩
abbrev cX3_wantValueNot : ByteArray := prog_5_method_4_code
def yX3_wantValueNot : MethodName := ⟨RX3, "wantValueNot", "(LWavePairs$Row;I)V"⟩
abbrev cX3_nextTick : ByteArray := prog_5_method_5_code
def yX3_nextTick : MethodName := ⟨RX3, "nextTick", "(IIZ)I"⟩
def RX4 : String := "WavePairs$Row"
def TX4 : u_T := fun k => match k with
  | 0 => ("WavePairs$Row", "ticks", "[I", true)
  | 1 => ("WavePairs$Row", "values", "[I", true)
  | _ => ("WavePairs$Row", "size", "I", false)
def tyX4 : Nat → FieldType := fun k => match k with
  | 0 => .array .int
  | 1 => .array .int
  | _ => .int
abbrev wsX40 : List Cond := u_ws RX4 TX4 3
theorem nmX4 : ∀ a, a < 3 → ∀ b, b < 3 → a ≠ b → (TX4 a).2.1 ≠ (TX4 b).2.1 := by decide +kernel
theorem tyX4_ok : ∀ k, k < 3 → parseFieldDescriptor (TX4 k).2.2.1 = some (tyX4 k) := by decide +kernel
abbrev cX4_init : ByteArray := prog_6_method_1_code
def yX4_init : MethodName := ⟨RX4, "<init>", "()V"⟩
abbrev cX4_size : ByteArray := prog_6_method_2_code
def yX4_size : MethodName := ⟨RX4, "size", "()I"⟩
abbrev cX4_lacksRoom : ByteArray := prog_6_method_3_code
def yX4_lacksRoom : MethodName := ⟨RX4, "lacksRoom", "(I)Z"⟩
abbrev cX4_put : ByteArray := prog_6_method_4_code
def yX4_put : MethodName := ⟨RX4, "put", "(II)V"⟩
abbrev cX4_clear : ByteArray := prog_6_method_5_code
def yX4_clear : MethodName := ⟨RX4, "clear", "()V"⟩
abbrev cX4_dropFrom : ByteArray := prog_6_method_6_code
def yX4_dropFrom : MethodName := ⟨RX4, "dropFrom", "(I)I"⟩
abbrev cX4_lastTick : ByteArray := prog_6_method_7_code
def yX4_lastTick : MethodName := ⟨RX4, "lastTick", "()I"⟩
abbrev cX4_tickOf : ByteArray := prog_6_method_8_code
def yX4_tickOf : MethodName := ⟨RX4, "tickOf", "(I)I"⟩
abbrev cX4_valueOf : ByteArray := prog_6_method_9_code
def yX4_valueOf : MethodName := ⟨RX4, "valueOf", "(I)I"⟩
abbrev cX4_valueAt : ByteArray := prog_6_method_10_code
def yX4_valueAt : MethodName := ⟨RX4, "valueAt", "(I)I"⟩
abbrev cX4_latest : ByteArray := prog_6_method_11_code
def yX4_latest : MethodName := ⟨RX4, "latest", "(I)I"⟩
abbrev cX4_isEdge : ByteArray := prog_6_method_12_code
def yX4_isEdge : MethodName := ⟨RX4, "isEdge", "(I)Z"⟩
abbrev cX4_nextEdge : ByteArray := prog_6_method_13_code
def yX4_nextEdge : MethodName := ⟨RX4, "nextEdge", "(II)I"⟩
abbrev cX4_latestEdge : ByteArray := prog_6_method_14_code
def yX4_latestEdge : MethodName := ⟨RX4, "latestEdge", "(I)I"⟩
abbrev cX4_turns : ByteArray := prog_6_method_15_code
def yX4_turns : MethodName := ⟨RX4, "turns", "(II)I"⟩
abbrev cX4_ticksNotKnown : ByteArray := prog_6_method_16_code
def yX4_ticksNotKnown : MethodName := ⟨RX4, "ticksNotKnown", "(II)I"⟩
abbrev cX4_sumKnown : ByteArray := prog_6_method_17_code
def yX4_sumKnown : MethodName := ⟨RX4, "sumKnown", "(II)I"⟩
abbrev cX4_ticksWithin : ByteArray := prog_6_method_18_code
def yX4_ticksWithin : MethodName := ⟨RX4, "ticksWithin", "(III)I"⟩
def RX5 : String := "WavePairs$Spans"
def TX5 : u_T := fun k => match k with
  | 0 => ("WavePairs$Spans", "pairs", "[LWavePairs$Pair;", true)
  | 1 => ("WavePairs$Spans", "size", "I", false)
  | 2 => ("WavePairs$Spans", "seen", "I", false)
  | 3 => ("WavePairs$Spans", "from", "I", false)
  | _ => ("WavePairs$Spans", "upTo", "I", false)
def tyX5 : Nat → FieldType := fun k => match k with
  | 0 => .array (.object "WavePairs$Pair")
  | 1 => .int
  | 2 => .int
  | 3 => .int
  | _ => .int
abbrev wsX50 : List Cond := u_ws RX5 TX5 5
theorem nmX5 : ∀ a, a < 5 → ∀ b, b < 5 → a ≠ b → (TX5 a).2.1 ≠ (TX5 b).2.1 := by decide +kernel
theorem tyX5_ok : ∀ k, k < 5 → parseFieldDescriptor (TX5 k).2.2.1 = some (tyX5 k) := by decide +kernel
abbrev cX5_init : ByteArray := prog_7_method_1_code
def yX5_init : MethodName := ⟨RX5, "<init>", "()V"⟩
abbrev cX5_clear : ByteArray := prog_7_method_2_code
def yX5_clear : MethodName := ⟨RX5, "clear", "()V"⟩
abbrev cX5_take : ByteArray := prog_7_method_3_code
def yX5_take : MethodName := ⟨RX5, "take", "()LWavePairs$Pair;"⟩
abbrev cX5_start : ByteArray := prog_7_method_4_code
def yX5_start : MethodName := ⟨RX5, "start", "(II)I"⟩
abbrev cX5_stop : ByteArray := prog_7_method_5_code
def yX5_stop : MethodName := ⟨RX5, "stop", "(II)I"⟩
abbrev cX5_find : ByteArray := prog_7_method_6_code
def yX5_find : MethodName := ⟨RX5, "find", "(III)Z"⟩
abbrev cX5_howMany : ByteArray := prog_7_method_7_code
def yX5_howMany : MethodName := ⟨RX5, "howMany", "(II)I"⟩
abbrev cX5_seen : ByteArray := prog_7_method_8_code
def yX5_seen : MethodName := ⟨RX5, "seen", "()I"⟩
abbrev cX5_edgeFound : ByteArray := prog_7_method_9_code
def yX5_edgeFound : MethodName := ⟨RX5, "edgeFound", "(I)I"⟩
def RX6 : String := "WavePairs"
def TX6 : u_T := fun k => match k with
  | 0 => ("WavePairs", "rows", "[LWavePairs$Row;", true)
  | 1 => ("WavePairs", "names", "[I", true)
  | 2 => ("WavePairs", "groups", "[I", true)
  | 3 => ("WavePairs", "shifts", "[I", true)
  | 4 => ("WavePairs", "masks", "[LWavePairs$Mask;", true)
  | 5 => ("WavePairs", "channels", "[LWavePairs$Channel;", true)
  | 6 => ("WavePairs", "gates", "[LWavePairs$Gate;", true)
  | 7 => ("WavePairs", "spans", "LWavePairs$Spans;", true)
  | 8 => ("WavePairs", "maskCount", "I", false)
  | 9 => ("WavePairs", "end", "I", false)
  | _ => ("WavePairs", "loose", "Z", false)
def tyX6 : Nat → FieldType := fun k => match k with
  | 0 => .array (.object "WavePairs$Row")
  | 1 => .array .int
  | 2 => .array .int
  | 3 => .array .int
  | 4 => .array (.object "WavePairs$Mask")
  | 5 => .array (.object "WavePairs$Channel")
  | 6 => .array (.object "WavePairs$Gate")
  | 7 => .object "WavePairs$Spans"
  | 8 => .int
  | 9 => .int
  | _ => .boolean
abbrev wsX60 : List Cond := u_ws RX6 TX6 11
theorem nmX6 : ∀ a, a < 11 → ∀ b, b < 11 → a ≠ b → (TX6 a).2.1 ≠ (TX6 b).2.1 := by decide +kernel
theorem tyX6_ok : ∀ k, k < 11 → parseFieldDescriptor (TX6 k).2.2.1 = some (tyX6 k) := by decide +kernel
abbrev cX6_init : ByteArray := prog_1_method_1_code
def yX6_init : MethodName := ⟨RX6, "<init>", "()V"⟩
abbrev cX6_change : ByteArray := prog_1_method_2_code
def yX6_change : MethodName := ⟨RX6, "change", "(IIII)I"⟩
abbrev cX6_changes : ByteArray := prog_1_method_3_code
def yX6_changes : MethodName := ⟨RX6, "changes", "(IIIJ)I"⟩
abbrev cX6_cut : ByteArray := prog_1_method_4_code
def yX6_cut : MethodName := ⟨RX6, "cut", "(III)I"⟩
abbrev cX6_value : ByteArray := prog_1_method_5_code
def yX6_value : MethodName := ⟨RX6, "value", "(III)I"⟩
abbrev cX6_areChanges : ByteArray := prog_1_method_6_code
def yX6_areChanges : MethodName := ⟨RX6, "areChanges", "(IIJ)Z"⟩
abbrev cX6_packedTicks : ByteArray := prog_1_method_7_code
def yX6_packedTicks : MethodName := ⟨RX6, "packedTicks", "(IJI)I"⟩
abbrev cX6_packedValue : ByteArray := prog_1_method_8_code
def yX6_packedValue : MethodName := ⟨RX6, "packedValue", "(IJI)I"⟩
abbrev cX6_packed : ByteArray := prog_1_method_9_code
def yX6_packed : MethodName := ⟨RX6, "packed", "(IJI)I"⟩
abbrev cX6_rule : ByteArray := prog_1_method_10_code
def yX6_rule : MethodName := ⟨RX6, "rule", "(II)I"⟩
abbrev cX6_call : ByteArray := prog_1_method_11_code
def yX6_call : MethodName := ⟨RX6, "call", "(III)I"⟩
abbrev cX6_shift : ByteArray := prog_1_method_12_code
def yX6_shift : MethodName := ⟨RX6, "shift", "(II)I"⟩
abbrev cX6_mask : ByteArray := prog_1_method_13_code
def yX6_mask : MethodName := ⟨RX6, "mask", "(III)I"⟩
abbrev cX6_maskWhile : ByteArray := prog_1_method_14_code
def yX6_maskWhile : MethodName := ⟨RX6, "maskWhile", "(III)I"⟩
abbrev cX6_noMasks : ByteArray := prog_1_method_15_code
def yX6_noMasks : MethodName := ⟨RX6, "noMasks", "()I"⟩
abbrev cX6_differences : ByteArray := prog_1_method_16_code
def yX6_differences : MethodName := ⟨RX6, "differences", "()I"⟩
abbrev cX6_difference : ByteArray := prog_1_method_17_code
def yX6_difference : MethodName := ⟨RX6, "difference", "(II)I"⟩
abbrev cX6_first : ByteArray := prog_1_method_18_code
def yX6_first : MethodName := ⟨RX6, "first", "()I"⟩
abbrev cX6_seekDifferences : ByteArray := prog_1_method_19_code
def yX6_seekDifferences : MethodName := ⟨RX6, "seekDifferences", "(II)V"⟩
abbrev cX6_channel : ByteArray := prog_1_method_20_code
def yX6_channel : MethodName := ⟨RX6, "channel", "(IIIII)I"⟩
abbrev cX6_act : ByteArray := prog_1_method_21_code
def yX6_act : MethodName := ⟨RX6, "act", "(IIII)I"⟩
abbrev cX6_unlike : ByteArray := prog_1_method_22_code
def yX6_unlike : MethodName := ⟨RX6, "unlike", "(I)I"⟩
abbrev cX6_nextAct : ByteArray := prog_1_method_23_code
def yX6_nextAct : MethodName := ⟨RX6, "nextAct", "(LWavePairs$Channel;II)I"⟩
abbrev cX6_hadOneAhead : ByteArray := prog_1_method_24_code
def yX6_hadOneAhead : MethodName := ⟨RX6, "hadOneAhead", "(III)Z"⟩
abbrev cX6_dataAhead : ByteArray := prog_1_method_25_code
def yX6_dataAhead : MethodName := ⟨RX6, "dataAhead", "(LWavePairs$Channel;II)I"⟩
abbrev cX6_fit : ByteArray := prog_1_method_26_code
def yX6_fit : MethodName := ⟨RX6, "fit", "(I)I"⟩
abbrev cX6_hasSignals : ByteArray := prog_1_method_27_code
def yX6_hasSignals : MethodName := ⟨RX6, "hasSignals", "(I)Z"⟩
abbrev cX6_fitsBy : ByteArray := prog_1_method_28_code
def yX6_fitsBy : MethodName := ⟨RX6, "fitsBy", "(II)Z"⟩
abbrev cX6_gate : ByteArray := prog_1_method_29_code
def yX6_gate : MethodName := ⟨RX6, "gate", "(IIII)I"⟩
abbrev cX6_guilty : ByteArray := prog_1_method_30_code
def yX6_guilty : MethodName := ⟨RX6, "guilty", "(I)I"⟩
abbrev cX6_inputsAgree : ByteArray := prog_1_method_31_code
def yX6_inputsAgree : MethodName := ⟨RX6, "inputsAgree", "(LWavePairs$Gate;I)Z"⟩
abbrev cX6_storedAgree : ByteArray := prog_1_method_32_code
def yX6_storedAgree : MethodName := ⟨RX6, "storedAgree", "(LWavePairs$Gate;I)Z"⟩
abbrev cX6_agreeAt : ByteArray := prog_1_method_33_code
def yX6_agreeAt : MethodName := ⟨RX6, "agreeAt", "(II)Z"⟩
abbrev cX6_alike : ByteArray := prog_1_method_34_code
def yX6_alike : MethodName := ⟨RX6, "alike", "(I)I"⟩
abbrev cX6_holds : ByteArray := prog_1_method_35_code
def yX6_holds : MethodName := ⟨RX6, "holds", "(IIIIIIII)I"⟩
abbrev cX6_window : ByteArray := prog_1_method_36_code
def yX6_window : MethodName := ⟨RX6, "window", "(IIIII)I"⟩
abbrev cX6_count : ByteArray := prog_1_method_37_code
def yX6_count : MethodName := ⟨RX6, "count", "(I)I"⟩
abbrev cX6_countChanges : ByteArray := prog_1_method_38_code
def yX6_countChanges : MethodName := ⟨RX6, "countChanges", "()I"⟩
abbrev cX6_countChannels : ByteArray := prog_1_method_39_code
def yX6_countChannels : MethodName := ⟨RX6, "countChannels", "()I"⟩
abbrev cX6_countGates : ByteArray := prog_1_method_40_code
def yX6_countGates : MethodName := ⟨RX6, "countGates", "()I"⟩
abbrev cX6_outside : ByteArray := prog_1_method_41_code
def yX6_outside : MethodName := ⟨RX6, "outside", "(III)Z"⟩
abbrev cX6_isNoSignal : ByteArray := prog_1_method_42_code
def yX6_isNoSignal : MethodName := ⟨RX6, "isNoSignal", "(I)Z"⟩
abbrev cX6_isNoRow : ByteArray := prog_1_method_43_code
def yX6_isNoRow : MethodName := ⟨RX6, "isNoRow", "(II)Z"⟩
abbrev cX6_isNoValue : ByteArray := prog_1_method_44_code
def yX6_isNoValue : MethodName := ⟨RX6, "isNoValue", "(I)Z"⟩
abbrev cX6_agree : ByteArray := prog_1_method_45_code
def yX6_agree : MethodName := ⟨RX6, "agree", "(IIZ)Z"⟩
abbrev cX6_rowOf : ByteArray := prog_1_method_46_code
def yX6_rowOf : MethodName := ⟨RX6, "rowOf", "(II)LWavePairs$Row;"⟩
abbrev cX6_namedRow : ByteArray := prog_1_method_47_code
def yX6_namedRow : MethodName := ⟨RX6, "namedRow", "(II)LWavePairs$Row;"⟩
def RX7 : String := "WavePairsModel"
def TX7 : u_T := fun k => match k with
  | 0 => ("WavePairsModel", "end", "I", false)
  | 1 => ("WavePairsModel", "loose", "I", false)
  | 2 => ("WavePairsModel", "many", "[I", true)
  | 3 => ("WavePairsModel", "tick", "[I", true)
  | 4 => ("WavePairsModel", "value", "[I", true)
  | 5 => ("WavePairsModel", "name", "[I", true)
  | 6 => ("WavePairsModel", "group", "[I", true)
  | 7 => ("WavePairsModel", "shifts", "[I", true)
  | 8 => ("WavePairsModel", "masks", "I", false)
  | 9 => ("WavePairsModel", "maskOf", "[I", true)
  | 10 => ("WavePairsModel", "maskA", "[I", true)
  | 11 => ("WavePairsModel", "maskB", "[I", true)
  | 12 => ("WavePairsModel", "maskBy", "[I", true)
  | 13 => ("WavePairsModel", "isChannel", "[Z", true)
  | 14 => ("WavePairsModel", "channel", "[I", true)
  | 15 => ("WavePairsModel", "gate", "[I", true)
  | 16 => ("WavePairsModel", "gateA", "[I", true)
  | 17 => ("WavePairsModel", "gateB", "[I", true)
  | 18 => ("WavePairsModel", "spanSignal", "I", false)
  | 19 => ("WavePairsModel", "spanFrom", "I", false)
  | 20 => ("WavePairsModel", "spanTo", "I", false)
  | 21 => ("WavePairsModel", "actTick", "I", false)
  | _ => ("WavePairsModel", "actValue", "I", false)
def tyX7 : Nat → FieldType := fun k => match k with
  | 0 => .int
  | 1 => .int
  | 2 => .array .int
  | 3 => .array .int
  | 4 => .array .int
  | 5 => .array .int
  | 6 => .array .int
  | 7 => .array .int
  | 8 => .int
  | 9 => .array .int
  | 10 => .array .int
  | 11 => .array .int
  | 12 => .array .int
  | 13 => .array .boolean
  | 14 => .array .int
  | 15 => .array .int
  | 16 => .array .int
  | 17 => .array .int
  | 18 => .int
  | 19 => .int
  | 20 => .int
  | 21 => .int
  | _ => .int
abbrev wsX70 : List Cond := u_ws RX7 TX7 23
theorem nmX7 : ∀ a, a < 23 → ∀ b, b < 23 → a ≠ b → (TX7 a).2.1 ≠ (TX7 b).2.1 := by decide +kernel
theorem tyX7_ok : ∀ k, k < 23 → parseFieldDescriptor (TX7 k).2.2.1 = some (tyX7 k) := by decide +kernel
abbrev cX7_init : ByteArray := prog_9_method_1_code
def yX7_init : MethodName := ⟨RX7, "<init>", "()V"⟩
abbrev cX7_in : ByteArray := prog_9_method_2_code
def yX7_in : MethodName := ⟨RX7, "in", "(III)Z"⟩
abbrev cX7_isSignal : ByteArray := prog_9_method_3_code
def yX7_isSignal : MethodName := ⟨RX7, "isSignal", "(I)Z"⟩
abbrev cX7_isRow : ByteArray := prog_9_method_4_code
def yX7_isRow : MethodName := ⟨RX7, "isRow", "(II)Z"⟩
abbrev cX7_last : ByteArray := prog_9_method_5_code
def yX7_last : MethodName := ⟨RX7, "last", "(I)I"⟩
abbrev cX7_lays : ByteArray := prog_9_method_6_code
def yX7_lays : MethodName := ⟨RX7, "lays", "(III)V"⟩
abbrev cX7_change : ByteArray := prog_9_method_7_code
def yX7_change : MethodName := ⟨RX7, "change", "(IIII)I"⟩
abbrev cX7_changes : ByteArray := prog_9_method_8_code
def yX7_changes : MethodName := ⟨RX7, "changes", "(IIIJ)I"⟩
abbrev cX7_cut : ByteArray := prog_9_method_9_code
def yX7_cut : MethodName := ⟨RX7, "cut", "(III)I"⟩
abbrev cX7_at : ByteArray := prog_9_method_10_code
def yX7_at : MethodName := ⟨RX7, "at", "(III)I"⟩
abbrev cX7_nextChange : ByteArray := prog_9_method_11_code
def yX7_nextChange : MethodName := ⟨RX7, "nextChange", "(III)I"⟩
abbrev cX7_value : ByteArray := prog_9_method_12_code
def yX7_value : MethodName := ⟨RX7, "value", "(III)I"⟩
abbrev cX7_rule : ByteArray := prog_9_method_13_code
def yX7_rule : MethodName := ⟨RX7, "rule", "(II)I"⟩
abbrev cX7_call : ByteArray := prog_9_method_14_code
def yX7_call : MethodName := ⟨RX7, "call", "(III)I"⟩
abbrev cX7_shift : ByteArray := prog_9_method_15_code
def yX7_shift : MethodName := ⟨RX7, "shift", "(II)I"⟩
abbrev cX7_masked : ByteArray := prog_9_method_16_code
def yX7_masked : MethodName := ⟨RX7, "masked", "(IIII)I"⟩
abbrev cX7_mask : ByteArray := prog_9_method_17_code
def yX7_mask : MethodName := ⟨RX7, "mask", "(III)I"⟩
abbrev cX7_maskWhile : ByteArray := prog_9_method_18_code
def yX7_maskWhile : MethodName := ⟨RX7, "maskWhile", "(III)I"⟩
abbrev cX7_noMasks : ByteArray := prog_9_method_19_code
def yX7_noMasks : MethodName := ⟨RX7, "noMasks", "()I"⟩
abbrev cX7_agree : ByteArray := prog_9_method_20_code
def yX7_agree : MethodName := ⟨RX7, "agree", "(II)Z"⟩
abbrev cX7_isMasked : ByteArray := prog_9_method_21_code
def yX7_isMasked : MethodName := ⟨RX7, "isMasked", "(II)Z"⟩
abbrev cX7_differs : ByteArray := prog_9_method_22_code
def yX7_differs : MethodName := ⟨RX7, "differs", "(III)Z"⟩
abbrev cX7_least : ByteArray := prog_9_method_23_code
def yX7_least : MethodName := ⟨RX7, "least", "(II)I"⟩
abbrev cX7_next : ByteArray := prog_9_method_24_code
def yX7_next : MethodName := ⟨RX7, "next", "(III)I"⟩
abbrev cX7_spans : ByteArray := prog_9_method_25_code
def yX7_spans : MethodName := ⟨RX7, "spans", "(I)I"⟩
abbrev cX7_found : ByteArray := prog_9_method_26_code
def yX7_found : MethodName := ⟨RX7, "found", "(IIIII)I"⟩
abbrev cX7_differences : ByteArray := prog_9_method_27_code
def yX7_differences : MethodName := ⟨RX7, "differences", "()I"⟩
abbrev cX7_difference : ByteArray := prog_9_method_28_code
def yX7_difference : MethodName := ⟨RX7, "difference", "(II)I"⟩
abbrev cX7_first : ByteArray := prog_9_method_29_code
def yX7_first : MethodName := ⟨RX7, "first", "()I"⟩
abbrev cX7_channel : ByteArray := prog_9_method_30_code
def yX7_channel : MethodName := ⟨RX7, "channel", "(IIIII)I"⟩
abbrev cX7_called : ByteArray := prog_9_method_31_code
def yX7_called : MethodName := ⟨RX7, "called", "(II)I"⟩
abbrev cX7_isEdge : ByteArray := prog_9_method_32_code
def yX7_isEdge : MethodName := ⟨RX7, "isEdge", "(III)Z"⟩
abbrev cX7_acts : ByteArray := prog_9_method_33_code
def yX7_acts : MethodName := ⟨RX7, "acts", "(III)I"⟩
abbrev cX7_act : ByteArray := prog_9_method_34_code
def yX7_act : MethodName := ⟨RX7, "act", "(IIII)I"⟩
abbrev cX7_unlike : ByteArray := prog_9_method_35_code
def yX7_unlike : MethodName := ⟨RX7, "unlike", "(I)I"⟩
abbrev cX7_fits : ByteArray := prog_9_method_36_code
def yX7_fits : MethodName := ⟨RX7, "fits", "(II)Z"⟩
abbrev cX7_fit : ByteArray := prog_9_method_37_code
def yX7_fit : MethodName := ⟨RX7, "fit", "(I)I"⟩
abbrev cX7_gate : ByteArray := prog_9_method_38_code
def yX7_gate : MethodName := ⟨RX7, "gate", "(IIII)I"⟩
abbrev cX7_agreeAt : ByteArray := prog_9_method_39_code
def yX7_agreeAt : MethodName := ⟨RX7, "agreeAt", "(II)Z"⟩
abbrev cX7_edge : ByteArray := prog_9_method_40_code
def yX7_edge : MethodName := ⟨RX7, "edge", "(III)I"⟩
abbrev cX7_inputsAgree : ByteArray := prog_9_method_41_code
def yX7_inputsAgree : MethodName := ⟨RX7, "inputsAgree", "(II)Z"⟩
abbrev cX7_guilty : ByteArray := prog_9_method_42_code
def yX7_guilty : MethodName := ⟨RX7, "guilty", "(I)I"⟩
abbrev cX7_behave : ByteArray := prog_9_method_43_code
def yX7_behave : MethodName := ⟨RX7, "behave", "(II)Z"⟩
abbrev cX7_alike : ByteArray := prog_9_method_44_code
def yX7_alike : MethodName := ⟨RX7, "alike", "(I)I"⟩
abbrev cX7_holds : ByteArray := prog_9_method_45_code
def yX7_holds : MethodName := ⟨RX7, "holds", "(IIIIIIII)I"⟩
abbrev cX7_window : ByteArray := prog_9_method_46_code
def yX7_window : MethodName := ⟨RX7, "window", "(IIIII)I"⟩
abbrev cX7_count : ByteArray := prog_9_method_47_code
def yX7_count : MethodName := ⟨RX7, "count", "(I)I"⟩
def RL : String := "WavePairsLaw"
abbrev cL_law : ByteArray := code
def yL_law : MethodName := ⟨RL, "law", "([I)Z"⟩
abbrev vwCl : List vw_C := [(RX0, TX0, 5), (RX1, TX1, 3), (RX2, TX2, 4), (RX3, TX3, 6), (RX4, TX4, 3), (RX5, TX5, 5), (RX6, TX6, 11), (RX7, TX7, 23)]
end
section
/-! The judgement wV: a method's body over a map from addresses to cells; numbers are Int, put into Int32 by gI. -/
abbrev wM : Type := Nat → Option va_E
abbrev mD : Type := MethodName × ByteArray × Nat × Option FieldType × Nat × Nat
abbrev gG : Type := Launch × va_G × (Nat → ClassId)
def gI (z : Int) : Int32 := Int32.ofInt z
abbrev rng (z : Int) : Prop := -2147483648 ≤ z ∧ z ≤ 2147483647
theorem gI_toInt {z : Int} (h : rng z) : (gI z).toInt = z := by
  unfold gI
  rw [Int32.toInt_ofInt]
  exact Int.bmod_eq_of_le (by simp only [Int32.size]; omega) (by simp only [Int32.size]; omega)
theorem gI_of (x : Int32) : x = gI x.toInt := (Int32.ofInt_toInt x).symm
theorem rng_of (x : Int32) : rng x.toInt := ⟨Int32.le_toInt x, by have := Int32.toInt_lt x; omega⟩
theorem gI_add (x y : Int) : gI x + gI y = gI (x + y) := (Int32.ofInt_add x y).symm
theorem gI_sub (x y : Int) : gI x - gI y = gI (x - y) := (Int32.ofInt_sub x y).symm
theorem gI_mul (x y : Int) : gI x * gI y = gI (x * y) := (Int32.ofInt_mul x y).symm
theorem gI_neg (x : Int) : -gI x = gI (-x) := (Int32.ofInt_neg x).symm
theorem gI_lt {x y : Int} (hx : rng x) (hy : rng y) : gI x < gI y ↔ x < y := by
  rw [Int32.lt_iff_toInt_lt, gI_toInt hx, gI_toInt hy]
theorem gI_le {x y : Int} (hx : rng x) (hy : rng y) : gI x ≤ gI y ↔ x ≤ y := by
  rw [Int32.le_iff_toInt_le, gI_toInt hx, gI_toInt hy]
theorem gI_inj {x y : Int} (hx : rng x) (hy : rng y) : gI x = gI y ↔ x = y := by
  rw [← Int32.toInt_inj, gI_toInt hx, gI_toInt hy]
theorem gI_clamp {x : Int} (h0 : 0 ≤ x) (hx : x ≤ 2147483647) : (gI x).toNatClampNeg = x.toNat := by
  show (gI x).toInt.toNat = _
  rw [gI_toInt ⟨by omega, hx⟩]
theorem gI_in {x : Int} {n : Nat} (h0 : 0 ≤ x) (hn : x < n) (hb : n ≤ 2147483647) : vp_in (gI x) n := by
  rw [vp_in_iff, gI_toInt ⟨by omega, by omega⟩]
  exact ⟨h0, hn⟩
/-- array content: a number function put into cells -/
def gF (f : Nat → Int) : Nat → Int32 := fun j => gI (f j)
def upz (f : Nat → Int) (k : Nat) (x : Int) : Nat → Int := fun j => if j = k then x else f j
theorem gF_upd (f : Nat → Int) (k : Nat) (x : Int) : upd (gF f) k (gI x) = gF (upz f k x) := by
  funext j
  simp only [upd, gF, upz]
  split <;> rfl
def wup (M : wM) (a : Nat) (e : va_E) : wM := fun b => if b = a then some e else M b
def wR (M : wM) (ws : va_W) : Prop := ∀ (a : Nat) (e : va_E), M a = some e ↔ (a, e) ∈ ws
def wW (D : va_G) (A : Nat → Prop) (M : wM) (H : Heap) : Prop := ∃ ws : va_W, va_P D vwCl ws H ∧ va_D A ws ∧ wR M ws
theorem wR.set {M : wM} {ws : va_W} {A : Nat → Prop} {q0 a : Nat} {e0 e1 : va_E} (hR : wR M ws) (hD : va_D A ws) (h0 : ws[q0]? = some (a, e0)) : wR (wup M a e1) (ws.set q0 (a, e1)) := by
  intro b e
  have hlt : q0 < ws.length := (List.getElem?_eq_some_iff.mp h0).1
  constructor
  · intro h
    unfold wup at h
    by_cases hb : b = a
    · subst hb
      rw [if_pos rfl] at h
      cases h
      exact List.mem_of_getElem? (i := q0) (by rw [List.getElem?_set]; simp [hlt])
    · rw [if_neg hb] at h
      obtain ⟨i, hi⟩ := List.getElem?_of_mem ((hR b e).mp h)
      refine List.mem_of_getElem? (i := i) ?_
      rw [List.getElem?_set]
      have : q0 ≠ i := fun hq => by
        subst hq
        rw [h0] at hi
        cases hi
        exact hb rfl
      rw [if_neg this]
      exact hi
  · intro h
    obtain ⟨i, hi⟩ := List.getElem?_of_mem h
    rw [List.getElem?_set] at hi
    unfold wup
    by_cases hq : q0 = i
    · subst hq
      simp only [hlt, if_true] at hi
      cases hi
      rw [if_pos rfl]
    · rw [if_neg hq] at hi
      have hb : b ≠ a := fun hb => by
        subst hb
        exact hq (hD.1 q0 i _ _ h0 hi rfl)
      rw [if_neg hb]
      exact (hR b e).mpr (List.mem_of_getElem? hi)
theorem wR.app {M : wM} {ws : va_W} {A : Nat → Prop} {a : Nat} {e1 : va_E} (hR : wR M ws) (hD : va_D A (ws ++ [(a, e1)])) : M a = none ∧ wR (wup M a e1) (ws ++ [(a, e1)]) := by
  have hn : ∀ e, M a ≠ some e := fun e h => by
    obtain ⟨i, hi⟩ := List.getElem?_of_mem ((hR a e).mp h)
    have hlt : i < ws.length := (List.getElem?_eq_some_iff.mp hi).1
    have := hD.1 i ws.length (a, e) (a, e1) (by rw [List.getElem?_append_left hlt]; exact hi) (by simp) rfl
    omega
  have hM : M a = none := by
    cases h : M a with
    | none => rfl
    | some e => exact absurd h (hn e)
  refine ⟨hM, fun b e => ?_⟩
  unfold wup
  rw [List.mem_append, List.mem_singleton]
  by_cases hb : b = a
  · subst hb
    rw [if_pos rfl]
    constructor
    · intro h
      cases h
      exact Or.inr rfl
    · rintro (h | h)
      · exact absurd ((hR b e).mpr h) (hn e)
      · cases h
        rfl
  · rw [if_neg hb, hR b e]
    constructor
    · exact Or.inl
    · rintro (h | h)
      · exact h
      · cases h
        exact absurd rfl hb
def lw_good : List Cond := lw_tbl.filter goodWord
def is_nest : Cond → Bool
  | .fieldLinkNest _ _ _ _ _ _ => true
  | .methodLinkNest _ _ _ _ => true
  | .arrayOver (.object _) => true
  | _ => false
def lw_nest : List Cond := lw_tbl.filter is_nest
def ws_of (q : mD) : List Cond := Cond.code q.1 q.2.1 q.2.2.1 q.2.2.2.1 :: lw_good
def rm_of (q : mD) (mc ms : Nat) : Room := { frames := q.2.2.2.2.1, cells := mc, slots := ms, locals := q.2.2.2.2.2 }
theorem good_all {w : Cond} (h : w ∈ lw_good) : (w.onTables && w.keeps) = true ∨ ∃ ty, w = .arrayClass ty := good_of_word (List.mem_filter.mp h).2
theorem goodIn_ws (q q2 : mD) (h : Cond.code q2.1 q2.2.1 q2.2.2.1 q2.2.2.2.1 ∈ lw_good) : GoodIn (ws_of q) (ws_of q2) := by
  intro w hw
  have hw' : w ∈ lw_good := by
    rcases List.mem_cons.mp hw with rfl | h2
    · exact h
    · exact h2
  exact ⟨List.mem_cons_of_mem _ hw', good_all hw'⟩
def wK (G : gG) (U : State) : Prop := va_K G.2.1 vwCl [(G.2.2 0, .int), (G.2.2 1, .boolean), (G.2.2 2, .object "WavePairs$Row"), (G.2.2 3, .object "WavePairs$Mask"), (G.2.2 4, .object "WavePairs$Channel"), (G.2.2 5, .object "WavePairs$Gate"), (G.2.2 6, .object "WavePairs$Pair")] U ∧ ∀ w ∈ lw_nest, va_Nw w U
theorem wK.warm {G : gG} {s U : State} (hW : s.WarmedH U.vm) (h : wK G s) : wK G U := by
  refine ⟨h.1.moved hW.alike, fun w hw => ?_⟩
  have h2 := (List.mem_filter.mp hw).2
  have h3 := h.2 w hw
  cases w <;> first | exact absurd h2 Bool.false_ne_true | exact va_Nw.warmF hW h3 | exact va_Nw.warmM hW h3 | (rename_i t; cases t <;> first | exact absurd h2 Bool.false_ne_true | exact va_AO.moved hW.alike h3)
theorem wK.same {G : gG} {s U : State} (hv : s.vm = U.vm) (h : wK G s) : wK G U := by
  refine ⟨h.1.moved (hv ▸ Vm.Alike.refl s.vm), fun w hw => ?_⟩
  have h2 := (List.mem_filter.mp hw).2
  have h3 := h.2 w hw
  cases w <;> first | exact absurd h2 Bool.false_ne_true | exact va_Nw.same rfl hv h3 | (rename_i t; cases t <;> first | exact absurd h2 Bool.false_ne_true | exact va_AO.moved (hv ▸ Vm.Alike.refl s.vm) h3)
def wA (M : wM) (sz : Nat) : Nat → Prop := fun a => M a ≠ none ∨ sz ≤ a
def wQ (G : gG) (M : wM) (sz : Nat) (Post : Option Value → wM → Prop) : Array Value → State → Outcome → State → Prop := fun _ st oc t =>
  (∃ (v : Option Value) (M' : wM), oc = .returned v ∧ Post v M' ∧ wW G.2.1 (wA M sz) M' t.heap ∧ ∀ a, M a ≠ none → M' a ≠ none) ∧ va_F (wA M sz) st t
/-- a method's contract over a map of cells -/
def wT (G : gG) (q : mD) (mc ms : Nat) (args : List Value) (M : wM) (Post : Option Value → wM → Prop) : Prop :=
  ∀ sz : Nat, Met G.1 q.1 (ws_of q) (rm_of q mc ms) (va_Pc args (fun U => U.heap.size = sz ∧ wW G.2.1 (fun _ => True) M U.heap ∧ wK G U)) (wQ G M sz Post) mc ms (wA M sz)
def cX (G : gG) (q : mD) (p : Program) (s : State) (m : MethodId) (args : Array Value) (meth : Method) (c : Code) : Prop :=
  p.tables.exec = Jvm.exec ∧ c.code = q.2.1 ∧ c.maxLocals = q.2.2.1 ∧ meth.sig.returnType = q.2.2.2.1 ∧ s.vm.findClass q.1.cls = some m.cls ∧ (∀ w ∈ ws_of q, w.before args s = true) ∧ wK G s ∧ meth.locks = false ∧ meth.name = q.1.name
def wV (G : gG) (q : mD) (mc ms sz : Nat) (M0 : wM) (kc ks : Nat) (pc : Nat) (lv : List (Nat × Value)) (st : List Value) (M : wM) (Post : Option Value → wM → Prop) : Prop :=
  ∀ (p : Program) (e : Env) (s : State) (m : MethodId) (args : Array Value) (below : List Frame) (meth : Method) (c : Code) (H : Heap) (locs : List Loc) (ls : Array Slot),
    cX G q p s m args meth c → s.heap.size = sz → wW G.2.1 (wA M0 sz) M H → (∀ a, M0 a ≠ none → M a ≠ none) → va_S (wA M0 sz) s.heap H locs → lv_has ls q.2.2.1 lv →
    W p G.1 e (rm_of q mc ms) s m args below meth c H locs kc ks (MQ below (wQ G M0 sz Post) args s mc ms (wA M0 sz)) (F0 m pc ls st)
theorem wW.weaken {D : va_G} {A B : Nat → Prop} {M : wM} {H : Heap} (h : wW D A M H) (hAB : ∀ a, M a ≠ none → A a → B a) : wW D B M H := by
  obtain ⟨ws, hP, hD, hR⟩ := h
  refine ⟨ws, hP, hD.weaken (fun k q hk hq => hAB _ ?_ hq), hR⟩
  rw [(hR q.1 q.2).mpr (List.mem_of_getElem? hk)]
  exact fun h => by cases h
theorem wT.intro {G : gG} {q : mD} {mc ms : Nat} {args : List Value} {M : wM} {Post : Option Value → wM → Prop} (hy : plainName q.1.cls = true) (hlen : (lg_sl args).length ≤ q.2.2.1)
    (h : ∀ sz, wV G q mc ms sz M 0 0 0 (lv_args 0 args) [] M Post) : wT G q mc ms args M Post := by
  intro sz
  refine Met.ofW (cc := q.2.1) (maxL := q.2.2.1) (ret := q.2.2.2.1) (ws' := lw_good) hy rfl ?_
  intro p e s m args' below meth c s₁ B hml hv
  obtain ⟨rfl, hsz, hW, hK⟩ := hv
  have hts := atoms_spec (ws := ws_of q) B.pre
  have hown : s.vm.findClass q.1.cls = some m.cls := findClass_of_methodNamed B.named
  have hl := lv_entry args (n := q.2.2.1) hlen
  rw [lg_entry_eq]
  refine h sz p e s m _ below meth c s.heap [] _ ⟨B.exec, B.bytes, hml, B.returns, hown, hts, hK, B.notSynchronized, (name_of_methodNamed B.named B.method).1⟩ hsz ?_ (fun _ h => h) va_S.rf hl
  exact hW.weaken (fun a ha _ => Or.inl ha)
end
