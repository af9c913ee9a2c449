section
-- ===== PART A: goes FIRST, ahead of the names: the tables' words, and 'selects' of the private methods out of them =====
/-- a private method of a class that the tables say can be made, by its rows of tables_1 -/
def lw_okq (q : MethodName × Nat) : Prop := (q.1.cls ≠ "java/lang/invoke/MethodHandle" ∧ q.1.cls ≠ "java/lang/invoke/VarHandle") ∧ Cond.instantiable q.1.cls q.2 ∈ tables_1 ∧ Cond.privateMethod q.1 ∈ tables_1 ∧ Cond.instanceMethod q.1 ∈ tables_1
theorem lw_p0 : lw_okq (⟨"WavePairs", "rowOf", "(II)LWavePairs$Row;"⟩, 11) := ⟨⟨by decide +kernel, by decide +kernel⟩, List.mem_of_getElem? (i := 11) (by decide +kernel), List.mem_of_getElem? (i := 210) (by decide +kernel), List.mem_of_getElem? (i := 211) (by decide +kernel)⟩
theorem lw_p1 : lw_okq (⟨"WavePairs", "seekDifferences", "(II)V"⟩, 11) := ⟨⟨by decide +kernel, by decide +kernel⟩, List.mem_of_getElem? (i := 11) (by decide +kernel), List.mem_of_getElem? (i := 318) (by decide +kernel), List.mem_of_getElem? (i := 319) (by decide +kernel)⟩
theorem lw_p2 : lw_okq (⟨"WavePairs", "namedRow", "(II)LWavePairs$Row;"⟩, 11) := ⟨⟨by decide +kernel, by decide +kernel⟩, List.mem_of_getElem? (i := 11) (by decide +kernel), List.mem_of_getElem? (i := 333) (by decide +kernel), List.mem_of_getElem? (i := 334) (by decide +kernel)⟩
theorem lw_p3 : lw_okq (⟨"WavePairs$Spans", "stop", "(II)I"⟩, 5) := ⟨⟨by decide +kernel, by decide +kernel⟩, List.mem_of_getElem? (i := 27) (by decide +kernel), List.mem_of_getElem? (i := 374) (by decide +kernel), List.mem_of_getElem? (i := 375) (by decide +kernel)⟩
theorem lw_p4 : lw_okq (⟨"WavePairs", "nextAct", "(LWavePairs$Channel;II)I"⟩, 11) := ⟨⟨by decide +kernel, by decide +kernel⟩, List.mem_of_getElem? (i := 11) (by decide +kernel), List.mem_of_getElem? (i := 408) (by decide +kernel), List.mem_of_getElem? (i := 409) (by decide +kernel)⟩
theorem lw_p5 : lw_okq (⟨"WavePairs$Row", "isEdge", "(I)Z"⟩, 3) := ⟨⟨by decide +kernel, by decide +kernel⟩, List.mem_of_getElem? (i := 40) (by decide +kernel), List.mem_of_getElem? (i := 416) (by decide +kernel), List.mem_of_getElem? (i := 417) (by decide +kernel)⟩
theorem lw_p6 : lw_okq (⟨"WavePairs", "hadOneAhead", "(III)Z"⟩, 11) := ⟨⟨by decide +kernel, by decide +kernel⟩, List.mem_of_getElem? (i := 11) (by decide +kernel), List.mem_of_getElem? (i := 420) (by decide +kernel), List.mem_of_getElem? (i := 421) (by decide +kernel)⟩
theorem lw_p7 : lw_okq (⟨"WavePairs", "dataAhead", "(LWavePairs$Channel;II)I"⟩, 11) := ⟨⟨by decide +kernel, by decide +kernel⟩, List.mem_of_getElem? (i := 11) (by decide +kernel), List.mem_of_getElem? (i := 424) (by decide +kernel), List.mem_of_getElem? (i := 425) (by decide +kernel)⟩
theorem lw_p8 : lw_okq (⟨"WavePairs", "hasSignals", "(I)Z"⟩, 11) := ⟨⟨by decide +kernel, by decide +kernel⟩, List.mem_of_getElem? (i := 11) (by decide +kernel), List.mem_of_getElem? (i := 437) (by decide +kernel), List.mem_of_getElem? (i := 438) (by decide +kernel)⟩
theorem lw_p9 : lw_okq (⟨"WavePairs", "fitsBy", "(II)Z"⟩, 11) := ⟨⟨by decide +kernel, by decide +kernel⟩, List.mem_of_getElem? (i := 11) (by decide +kernel), List.mem_of_getElem? (i := 441) (by decide +kernel), List.mem_of_getElem? (i := 442) (by decide +kernel)⟩
theorem lw_p10 : lw_okq (⟨"WavePairs", "agreeAt", "(II)Z"⟩, 11) := ⟨⟨by decide +kernel, by decide +kernel⟩, List.mem_of_getElem? (i := 11) (by decide +kernel), List.mem_of_getElem? (i := 461) (by decide +kernel), List.mem_of_getElem? (i := 462) (by decide +kernel)⟩
theorem lw_p11 : lw_okq (⟨"WavePairs", "inputsAgree", "(LWavePairs$Gate;I)Z"⟩, 11) := ⟨⟨by decide +kernel, by decide +kernel⟩, List.mem_of_getElem? (i := 11) (by decide +kernel), List.mem_of_getElem? (i := 465) (by decide +kernel), List.mem_of_getElem? (i := 466) (by decide +kernel)⟩
theorem lw_p12 : lw_okq (⟨"WavePairs", "storedAgree", "(LWavePairs$Gate;I)Z"⟩, 11) := ⟨⟨by decide +kernel, by decide +kernel⟩, List.mem_of_getElem? (i := 11) (by decide +kernel), List.mem_of_getElem? (i := 469) (by decide +kernel), List.mem_of_getElem? (i := 470) (by decide +kernel)⟩
theorem lw_p13 : lw_okq (⟨"WavePairs$Row", "ticksWithin", "(III)I"⟩, 3) := ⟨⟨by decide +kernel, by decide +kernel⟩, List.mem_of_getElem? (i := 40) (by decide +kernel), List.mem_of_getElem? (i := 498) (by decide +kernel), List.mem_of_getElem? (i := 499) (by decide +kernel)⟩
theorem lw_p14 : lw_okq (⟨"WavePairs", "countChanges", "()I"⟩, 11) := ⟨⟨by decide +kernel, by decide +kernel⟩, List.mem_of_getElem? (i := 11) (by decide +kernel), List.mem_of_getElem? (i := 512) (by decide +kernel), List.mem_of_getElem? (i := 513) (by decide +kernel)⟩
theorem lw_p15 : lw_okq (⟨"WavePairs", "countChannels", "()I"⟩, 11) := ⟨⟨by decide +kernel, by decide +kernel⟩, List.mem_of_getElem? (i := 11) (by decide +kernel), List.mem_of_getElem? (i := 516) (by decide +kernel), List.mem_of_getElem? (i := 517) (by decide +kernel)⟩
def lw_privs_1 : List (MethodName × Nat) := [(⟨"WavePairs", "rowOf", "(II)LWavePairs$Row;"⟩, 11), (⟨"WavePairs", "seekDifferences", "(II)V"⟩, 11), (⟨"WavePairs", "namedRow", "(II)LWavePairs$Row;"⟩, 11), (⟨"WavePairs$Spans", "stop", "(II)I"⟩, 5), (⟨"WavePairs", "nextAct", "(LWavePairs$Channel;II)I"⟩, 11), (⟨"WavePairs$Row", "isEdge", "(I)Z"⟩, 3), (⟨"WavePairs", "hadOneAhead", "(III)Z"⟩, 11), (⟨"WavePairs", "dataAhead", "(LWavePairs$Channel;II)I"⟩, 11), (⟨"WavePairs", "hasSignals", "(I)Z"⟩, 11), (⟨"WavePairs", "fitsBy", "(II)Z"⟩, 11), (⟨"WavePairs", "agreeAt", "(II)Z"⟩, 11), (⟨"WavePairs", "inputsAgree", "(LWavePairs$Gate;I)Z"⟩, 11), (⟨"WavePairs", "storedAgree", "(LWavePairs$Gate;I)Z"⟩, 11), (⟨"WavePairs$Row", "ticksWithin", "(III)I"⟩, 3), (⟨"WavePairs", "countChanges", "()I"⟩, 11), (⟨"WavePairs", "countChannels", "()I"⟩, 11)]
theorem lw_r1 : ∀ q ∈ lw_privs_1, lw_okq q := List.forall_mem_cons.mpr ⟨lw_p0, List.forall_mem_cons.mpr ⟨lw_p1, List.forall_mem_cons.mpr ⟨lw_p2, List.forall_mem_cons.mpr ⟨lw_p3, List.forall_mem_cons.mpr ⟨lw_p4, List.forall_mem_cons.mpr ⟨lw_p5, List.forall_mem_cons.mpr ⟨lw_p6, List.forall_mem_cons.mpr ⟨lw_p7, List.forall_mem_cons.mpr ⟨lw_p8, List.forall_mem_cons.mpr ⟨lw_p9, List.forall_mem_cons.mpr ⟨lw_p10, List.forall_mem_cons.mpr ⟨lw_p11, List.forall_mem_cons.mpr ⟨lw_p12, List.forall_mem_cons.mpr ⟨lw_p13, List.forall_mem_cons.mpr ⟨lw_p14, List.forall_mem_cons.mpr ⟨lw_p15, fun _ h => absurd h List.not_mem_nil⟩⟩⟩⟩⟩⟩⟩⟩⟩⟩⟩⟩⟩⟩⟩⟩
theorem lw_p16 : lw_okq (⟨"WavePairs", "countGates", "()I"⟩, 11) := ⟨⟨by decide +kernel, by decide +kernel⟩, List.mem_of_getElem? (i := 11) (by decide +kernel), List.mem_of_getElem? (i := 520) (by decide +kernel), List.mem_of_getElem? (i := 521) (by decide +kernel)⟩
theorem lw_p17 : lw_okq (⟨"WavePairsModel", "last", "(I)I"⟩, 23) := ⟨⟨by decide +kernel, by decide +kernel⟩, List.mem_of_getElem? (i := 524) (by decide +kernel), List.mem_of_getElem? (i := 614) (by decide +kernel), List.mem_of_getElem? (i := 615) (by decide +kernel)⟩
theorem lw_p18 : lw_okq (⟨"WavePairsModel", "lays", "(III)V"⟩, 23) := ⟨⟨by decide +kernel, by decide +kernel⟩, List.mem_of_getElem? (i := 524) (by decide +kernel), List.mem_of_getElem? (i := 618) (by decide +kernel), List.mem_of_getElem? (i := 619) (by decide +kernel)⟩
theorem lw_p19 : lw_okq (⟨"WavePairsModel", "at", "(III)I"⟩, 23) := ⟨⟨by decide +kernel, by decide +kernel⟩, List.mem_of_getElem? (i := 524) (by decide +kernel), List.mem_of_getElem? (i := 635) (by decide +kernel), List.mem_of_getElem? (i := 636) (by decide +kernel)⟩
theorem lw_p20 : lw_okq (⟨"WavePairsModel", "masked", "(IIII)I"⟩, 23) := ⟨⟨by decide +kernel, by decide +kernel⟩, List.mem_of_getElem? (i := 524) (by decide +kernel), List.mem_of_getElem? (i := 655) (by decide +kernel), List.mem_of_getElem? (i := 656) (by decide +kernel)⟩
theorem lw_p21 : lw_okq (⟨"WavePairsModel", "spans", "(I)I"⟩, 23) := ⟨⟨by decide +kernel, by decide +kernel⟩, List.mem_of_getElem? (i := 524) (by decide +kernel), List.mem_of_getElem? (i := 671) (by decide +kernel), List.mem_of_getElem? (i := 672) (by decide +kernel)⟩
theorem lw_p22 : lw_okq (⟨"WavePairsModel", "differs", "(III)Z"⟩, 23) := ⟨⟨by decide +kernel, by decide +kernel⟩, List.mem_of_getElem? (i := 524) (by decide +kernel), List.mem_of_getElem? (i := 675) (by decide +kernel), List.mem_of_getElem? (i := 676) (by decide +kernel)⟩
theorem lw_p23 : lw_okq (⟨"WavePairsModel", "agree", "(II)Z"⟩, 23) := ⟨⟨by decide +kernel, by decide +kernel⟩, List.mem_of_getElem? (i := 524) (by decide +kernel), List.mem_of_getElem? (i := 679) (by decide +kernel), List.mem_of_getElem? (i := 680) (by decide +kernel)⟩
theorem lw_p24 : lw_okq (⟨"WavePairsModel", "isMasked", "(II)Z"⟩, 23) := ⟨⟨by decide +kernel, by decide +kernel⟩, List.mem_of_getElem? (i := 524) (by decide +kernel), List.mem_of_getElem? (i := 683) (by decide +kernel), List.mem_of_getElem? (i := 684) (by decide +kernel)⟩
theorem lw_p25 : lw_okq (⟨"WavePairsModel", "found", "(IIIII)I"⟩, 23) := ⟨⟨by decide +kernel, by decide +kernel⟩, List.mem_of_getElem? (i := 524) (by decide +kernel), List.mem_of_getElem? (i := 687) (by decide +kernel), List.mem_of_getElem? (i := 688) (by decide +kernel)⟩
theorem lw_p26 : lw_okq (⟨"WavePairsModel", "next", "(III)I"⟩, 23) := ⟨⟨by decide +kernel, by decide +kernel⟩, List.mem_of_getElem? (i := 524) (by decide +kernel), List.mem_of_getElem? (i := 691) (by decide +kernel), List.mem_of_getElem? (i := 692) (by decide +kernel)⟩
theorem lw_p27 : lw_okq (⟨"WavePairsModel", "nextChange", "(III)I"⟩, 23) := ⟨⟨by decide +kernel, by decide +kernel⟩, List.mem_of_getElem? (i := 524) (by decide +kernel), List.mem_of_getElem? (i := 695) (by decide +kernel), List.mem_of_getElem? (i := 696) (by decide +kernel)⟩
theorem lw_p28 : lw_okq (⟨"WavePairsModel", "acts", "(III)I"⟩, 23) := ⟨⟨by decide +kernel, by decide +kernel⟩, List.mem_of_getElem? (i := 524) (by decide +kernel), List.mem_of_getElem? (i := 719) (by decide +kernel), List.mem_of_getElem? (i := 720) (by decide +kernel)⟩
theorem lw_p29 : lw_okq (⟨"WavePairsModel", "called", "(II)I"⟩, 23) := ⟨⟨by decide +kernel, by decide +kernel⟩, List.mem_of_getElem? (i := 524) (by decide +kernel), List.mem_of_getElem? (i := 723) (by decide +kernel), List.mem_of_getElem? (i := 724) (by decide +kernel)⟩
theorem lw_p30 : lw_okq (⟨"WavePairsModel", "isEdge", "(III)Z"⟩, 23) := ⟨⟨by decide +kernel, by decide +kernel⟩, List.mem_of_getElem? (i := 524) (by decide +kernel), List.mem_of_getElem? (i := 727) (by decide +kernel), List.mem_of_getElem? (i := 728) (by decide +kernel)⟩
theorem lw_p31 : lw_okq (⟨"WavePairsModel", "fits", "(II)Z"⟩, 23) := ⟨⟨by decide +kernel, by decide +kernel⟩, List.mem_of_getElem? (i := 524) (by decide +kernel), List.mem_of_getElem? (i := 739) (by decide +kernel), List.mem_of_getElem? (i := 740) (by decide +kernel)⟩
def lw_privs_2 : List (MethodName × Nat) := [(⟨"WavePairs", "countGates", "()I"⟩, 11), (⟨"WavePairsModel", "last", "(I)I"⟩, 23), (⟨"WavePairsModel", "lays", "(III)V"⟩, 23), (⟨"WavePairsModel", "at", "(III)I"⟩, 23), (⟨"WavePairsModel", "masked", "(IIII)I"⟩, 23), (⟨"WavePairsModel", "spans", "(I)I"⟩, 23), (⟨"WavePairsModel", "differs", "(III)Z"⟩, 23), (⟨"WavePairsModel", "agree", "(II)Z"⟩, 23), (⟨"WavePairsModel", "isMasked", "(II)Z"⟩, 23), (⟨"WavePairsModel", "found", "(IIIII)I"⟩, 23), (⟨"WavePairsModel", "next", "(III)I"⟩, 23), (⟨"WavePairsModel", "nextChange", "(III)I"⟩, 23), (⟨"WavePairsModel", "acts", "(III)I"⟩, 23), (⟨"WavePairsModel", "called", "(II)I"⟩, 23), (⟨"WavePairsModel", "isEdge", "(III)Z"⟩, 23), (⟨"WavePairsModel", "fits", "(II)Z"⟩, 23)]
theorem lw_r2 : ∀ q ∈ lw_privs_2, lw_okq q := List.forall_mem_cons.mpr ⟨lw_p16, List.forall_mem_cons.mpr ⟨lw_p17, List.forall_mem_cons.mpr ⟨lw_p18, List.forall_mem_cons.mpr ⟨lw_p19, List.forall_mem_cons.mpr ⟨lw_p20, List.forall_mem_cons.mpr ⟨lw_p21, List.forall_mem_cons.mpr ⟨lw_p22, List.forall_mem_cons.mpr ⟨lw_p23, List.forall_mem_cons.mpr ⟨lw_p24, List.forall_mem_cons.mpr ⟨lw_p25, List.forall_mem_cons.mpr ⟨lw_p26, List.forall_mem_cons.mpr ⟨lw_p27, List.forall_mem_cons.mpr ⟨lw_p28, List.forall_mem_cons.mpr ⟨lw_p29, List.forall_mem_cons.mpr ⟨lw_p30, List.forall_mem_cons.mpr ⟨lw_p31, fun _ h => absurd h List.not_mem_nil⟩⟩⟩⟩⟩⟩⟩⟩⟩⟩⟩⟩⟩⟩⟩⟩
theorem lw_p32 : lw_okq (⟨"WavePairsModel", "agreeAt", "(II)Z"⟩, 23) := ⟨⟨by decide +kernel, by decide +kernel⟩, List.mem_of_getElem? (i := 524) (by decide +kernel), List.mem_of_getElem? (i := 751) (by decide +kernel), List.mem_of_getElem? (i := 752) (by decide +kernel)⟩
theorem lw_p33 : lw_okq (⟨"WavePairsModel", "inputsAgree", "(II)Z"⟩, 23) := ⟨⟨by decide +kernel, by decide +kernel⟩, List.mem_of_getElem? (i := 524) (by decide +kernel), List.mem_of_getElem? (i := 755) (by decide +kernel), List.mem_of_getElem? (i := 756) (by decide +kernel)⟩
theorem lw_p34 : lw_okq (⟨"WavePairsModel", "edge", "(III)I"⟩, 23) := ⟨⟨by decide +kernel, by decide +kernel⟩, List.mem_of_getElem? (i := 524) (by decide +kernel), List.mem_of_getElem? (i := 759) (by decide +kernel), List.mem_of_getElem? (i := 760) (by decide +kernel)⟩
theorem lw_p35 : lw_okq (⟨"WavePairsModel", "behave", "(II)Z"⟩, 23) := ⟨⟨by decide +kernel, by decide +kernel⟩, List.mem_of_getElem? (i := 524) (by decide +kernel), List.mem_of_getElem? (i := 767) (by decide +kernel), List.mem_of_getElem? (i := 768) (by decide +kernel)⟩
def lw_privs_3 : List (MethodName × Nat) := [(⟨"WavePairsModel", "agreeAt", "(II)Z"⟩, 23), (⟨"WavePairsModel", "inputsAgree", "(II)Z"⟩, 23), (⟨"WavePairsModel", "edge", "(III)I"⟩, 23), (⟨"WavePairsModel", "behave", "(II)Z"⟩, 23)]
theorem lw_r3 : ∀ q ∈ lw_privs_3, lw_okq q := List.forall_mem_cons.mpr ⟨lw_p32, List.forall_mem_cons.mpr ⟨lw_p33, List.forall_mem_cons.mpr ⟨lw_p34, List.forall_mem_cons.mpr ⟨lw_p35, fun _ h => absurd h List.not_mem_nil⟩⟩⟩⟩
def lw_privs : List (MethodName × Nat) := lw_privs_1 ++ (lw_privs_2 ++ (lw_privs_3))
def lw_tbl : List Cond := k2_sels lw_privs ++ tables_1
theorem lw_privs_ok : ∀ q ∈ lw_privs, lw_okq q := by
  show ∀ q ∈ lw_privs_1 ++ (lw_privs_2 ++ (lw_privs_3)), lw_okq q
  exact List.forall_mem_append.mpr ⟨lw_r1, List.forall_mem_append.mpr ⟨lw_r2, lw_r3⟩⟩
-- ===== end of PART A; then your names; then what follows =====
end
section
def RX0 : String := "WavePairs$Channel"
def TX0 : u_T := fun k => match k with
  | 0 => ("WavePairs$Channel", "isTold", "Z", false)
  | 1 => ("WavePairs$Channel", "clock", "I", false)
  | 2 => ("WavePairs$Channel", "valid", "I", false)
  | 3 => ("WavePairs$Channel", "ready", "I", false)
  | _ => ("WavePairs$Channel", "data", "I", false)
def tyX0 : Nat → FieldType := fun k => match k with
  | 0 => .boolean
  | 1 => .int
  | 2 => .int
  | 3 => .int
  | _ => .int
abbrev wsX00 : List Cond := u_ws RX0 TX0 5
theorem nmX0 : ∀ a, a < 5 → ∀ b, b < 5 → a ≠ b → (TX0 a).2.1 ≠ (TX0 b).2.1 := by decide +kernel
theorem tyX0_ok : ∀ k, k < 5 → parseFieldDescriptor (TX0 k).2.2.1 = some (tyX0 k) := by decide +kernel
abbrev cX0_init : ByteArray := prog_2_method_1_code
def yX0_init : MethodName := ⟨RX0, "<init>", "()V"⟩
abbrev cX0_tell : ByteArray := prog_2_method_2_code
def yX0_tell : MethodName := ⟨RX0, "tell", "(IIII)V"⟩
def RX1 : String := "WavePairs$Gate"
def TX1 : u_T := fun k => match k with
  | 0 => ("WavePairs$Gate", "kind", "I", false)
  | 1 => ("WavePairs$Gate", "a", "I", false)
  | _ => ("WavePairs$Gate", "b", "I", false)
def tyX1 : Nat → FieldType := fun k => match k with
  | 0 => .int
  | 1 => .int
  | _ => .int
abbrev wsX10 : List Cond := u_ws RX1 TX1 3
theorem nmX1 : ∀ a, a < 3 → ∀ b, b < 3 → a ≠ b → (TX1 a).2.1 ≠ (TX1 b).2.1 := by decide +kernel
theorem tyX1_ok : ∀ k, k < 3 → parseFieldDescriptor (TX1 k).2.2.1 = some (tyX1 k) := by decide +kernel
abbrev cX1_init : ByteArray := prog_3_method_1_code
def yX1_init : MethodName := ⟨RX1, "<init>", "()V"⟩
abbrev cX1_tell : ByteArray := prog_3_method_2_code
def yX1_tell : MethodName := ⟨RX1, "tell", "(III)V"⟩
def RX2 : String := "WavePairs$Mask"
def TX2 : u_T := fun k => match k with
  | 0 => ("WavePairs$Mask", "ticks", "LWavePairs$Row;", true)
  | 1 => ("WavePairs$Mask", "signal", "I", false)
  | 2 => ("WavePairs$Mask", "row", "LWavePairs$Row;", false)
  | _ => ("WavePairs$Mask", "value", "I", false)
def tyX2 : Nat → FieldType := fun k => match k with
  | 0 => .object "WavePairs$Row"
  | 1 => .int
  | 2 => .object "WavePairs$Row"
  | _ => .int
abbrev wsX20 : List Cond := u_ws RX2 TX2 4
theorem nmX2 : ∀ a, a < 4 → ∀ b, b < 4 → a ≠ b → (TX2 a).2.1 ≠ (TX2 b).2.1 := by decide +kernel
theorem tyX2_ok : ∀ k, k < 4 → parseFieldDescriptor (TX2 k).2.2.1 = some (tyX2 k) := by decide +kernel
abbrev cX2_init : ByteArray := prog_4_method_1_code
def yX2_init : MethodName := ⟨RX2, "<init>", "()V"⟩
abbrev cX2_coverTicks : ByteArray := prog_4_method_2_code
def yX2_coverTicks : MethodName := ⟨RX2, "coverTicks", "(III)V"⟩
abbrev cX2_coverWhile : ByteArray := prog_4_method_3_code
def yX2_coverWhile : MethodName := ⟨RX2, "coverWhile", "(ILWavePairs$Row;I)V"⟩
def RX3 : String := "WavePairs$Pair"
def TX3 : u_T := fun k => match k with
  | 0 => ("WavePairs$Pair", "steady", "LWavePairs$Row;", true)
  | 1 => ("WavePairs$Pair", "left", "LWavePairs$Row;", false)
  | 2 => ("WavePairs$Pair", "right", "LWavePairs$Row;", false)
  | 3 => ("WavePairs$Pair", "lag", "I", false)
  | 4 => ("WavePairs$Pair", "isLoose", "Z", false)
  | _ => ("WavePairs$Pair", "wantsAlike", "Z", false)
def tyX3 : Nat → FieldType := fun k => match k with
  | 0 => .object "WavePairs$Row"
  | 1 => .object "WavePairs$Row"
  | 2 => .object "WavePairs$Row"
  | 3 => .int
  | 4 => .boolean
  | _ => .boolean
abbrev wsX30 : List Cond := u_ws RX3 TX3 6
theorem nmX3 : ∀ a, a < 6 → ∀ b, b < 6 → a ≠ b → (TX3 a).2.1 ≠ (TX3 b).2.1 := by decide +kernel
theorem tyX3_ok : ∀ k, k < 6 → parseFieldDescriptor (TX3 k).2.2.1 = some (tyX3 k) := by decide +kernel
abbrev cX3_init : ByteArray := prog_5_method_1_code
def yX3_init : MethodName := ⟨RX3, "<init>", "()V"⟩
abbrev cX3_wantUnlike : ByteArray := prog_5_method_2_code
def yX3_wantUnlike : MethodName := ⟨RX3, "wantUnlike", "(LWavePairs$Row;LWavePairs$Row;IZ)V"⟩
abbrev cX3_wantValue : ByteArray := prog_5_method_3_code
def yX3_wantValue : MethodName := ⟨RX3, "wantValue", "(LWavePairs$Row;I)V"⟩
abbrev cX3_wantValueNot : ByteArray := prog_5_method_4_code
def yX3_wantValueNot : MethodName := ⟨RX3, "wantValueNot", "(LWavePairs$Row;I)V"⟩
abbrev cX3_nextTick : ByteArray := prog_5_method_5_code
def yX3_nextTick : MethodName := ⟨RX3, "nextTick", "(IIZ)I"⟩
def RX4 : String := "WavePairs$Row"
def TX4 : u_T := fun k => match k with
  | 0 => ("WavePairs$Row", "ticks", "[I", true)
  | 1 => ("WavePairs$Row", "values", "[I", true)
  | _ => ("WavePairs$Row", "size", "I", false)
def tyX4 : Nat → FieldType := fun k => match k with
  | 0 => .array .int
  | 1 => .array .int
  | _ => .int
abbrev wsX40 : List Cond := u_ws RX4 TX4 3
theorem nmX4 : ∀ a, a < 3 → ∀ b, b < 3 → a ≠ b → (TX4 a).2.1 ≠ (TX4 b).2.1 := by decide +kernel
theorem tyX4_ok : ∀ k, k < 3 → parseFieldDescriptor (TX4 k).2.2.1 = some (tyX4 k) := by decide +kernel
abbrev cX4_init : ByteArray := prog_6_method_1_code
def yX4_init : MethodName := ⟨RX4, "<init>", "()V"⟩
abbrev cX4_size : ByteArray := prog_6_method_2_code
def yX4_size : MethodName := ⟨RX4, "size", "()I"⟩
abbrev cX4_lacksRoom : ByteArray := prog_6_method_3_code
def yX4_lacksRoom : MethodName := ⟨RX4, "lacksRoom", "(I)Z"⟩
abbrev cX4_put : ByteArray := prog_6_method_4_code
def yX4_put : MethodName := ⟨RX4, "put", "(II)V"⟩
abbrev cX4_clear : ByteArray := prog_6_method_5_code
def yX4_clear : MethodName := ⟨RX4, "clear", "()V"⟩
abbrev cX4_dropFrom : ByteArray := prog_6_method_6_code
def yX4_dropFrom : MethodName := ⟨RX4, "dropFrom", "(I)I"⟩
abbrev cX4_lastTick : ByteArray := prog_6_method_7_code
def yX4_lastTick : MethodName := ⟨RX4, "lastTick", "()I"⟩
abbrev cX4_tickOf : ByteArray := prog_6_method_8_code
def yX4_tickOf : MethodName := ⟨RX4, "tickOf", "(I)I"⟩
abbrev cX4_valueOf : ByteArray := prog_6_method_9_code
def yX4_valueOf : MethodName := ⟨RX4, "valueOf", "(I)I"⟩
abbrev cX4_valueAt : ByteArray := prog_6_method_10_code
def yX4_valueAt : MethodName := ⟨RX4, "valueAt", "(I)I"⟩
abbrev cX4_latest : ByteArray := prog_6_method_11_code
def yX4_latest : MethodName := ⟨RX4, "latest", "(I)I"⟩
abbrev cX4_isEdge : ByteArray := prog_6_method_12_code
def yX4_isEdge : MethodName := ⟨RX4, "isEdge", "(I)Z"⟩
abbrev cX4_nextEdge : ByteArray := prog_6_method_13_code
def yX4_nextEdge : MethodName := ⟨RX4, "nextEdge", "(II)I"⟩
abbrev cX4_latestEdge : ByteArray := prog_6_method_14_code
def yX4_latestEdge : MethodName := ⟨RX4, "latestEdge", "(I)I"⟩
abbrev cX4_turns : ByteArray := prog_6_method_15_code
def yX4_turns : MethodName := ⟨RX4, "turns", "(II)I"⟩
abbrev cX4_ticksNotKnown : ByteArray := prog_6_method_16_code
def yX4_ticksNotKnown : MethodName := ⟨RX4, "ticksNotKnown", "(II)I"⟩
abbrev cX4_sumKnown : ByteArray := prog_6_method_17_code
def yX4_sumKnown : MethodName := ⟨RX4, "sumKnown", "(II)I"⟩
abbrev cX4_ticksWithin : ByteArray := prog_6_method_18_code
def yX4_ticksWithin : MethodName := ⟨RX4, "ticksWithin", "(III)I"⟩
def RX5 : String := "WavePairs$Spans"
def TX5 : u_T := fun k => match k with
  | 0 => ("WavePairs$Spans", "pairs", "[LWavePairs$Pair;", true)
  | 1 => ("WavePairs$Spans", "size", "I", false)
  | 2 => ("WavePairs$Spans", "seen", "I", false)
  | 3 => ("WavePairs$Spans", "from", "I", false)
  | _ => ("WavePairs$Spans", "upTo", "I", false)
def tyX5 : Nat → FieldType := fun k => match k with
  | 0 => .array (.object "WavePairs$Pair")
  | 1 => .int
  | 2 => .int
  | 3 => .int
  | _ => .int
abbrev wsX50 : List Cond := u_ws RX5 TX5 5
theorem nmX5 : ∀ a, a < 5 → ∀ b, b < 5 → a ≠ b → (TX5 a).2.1 ≠ (TX5 b).2.1 := by decide +kernel
theorem tyX5_ok : ∀ k, k < 5 → parseFieldDescriptor (TX5 k).2.2.1 = some (tyX5 k) := by decide +kernel
abbrev cX5_init : ByteArray := prog_7_method_1_code
def yX5_init : MethodName := ⟨RX5, "<init>", "()V"⟩
abbrev cX5_clear : ByteArray := prog_7_method_2_code
def yX5_clear : MethodName := ⟨RX5, "clear", "()V"⟩
abbrev cX5_take : ByteArray := prog_7_method_3_code
def yX5_take : MethodName := ⟨RX5, "take", "()LWavePairs$Pair;"⟩
abbrev cX5_start : ByteArray := prog_7_method_4_code
def yX5_start : MethodName := ⟨RX5, "start", "(II)I"⟩
abbrev cX5_stop : ByteArray := prog_7_method_5_code
def yX5_stop : MethodName := ⟨RX5, "stop", "(II)I"⟩
abbrev cX5_find : ByteArray := prog_7_method_6_code
def yX5_find : MethodName := ⟨RX5, "find", "(III)Z"⟩
abbrev cX5_howMany : ByteArray := prog_7_method_7_code
def yX5_howMany : MethodName := ⟨RX5, "howMany", "(II)I"⟩
abbrev cX5_seen : ByteArray := prog_7_method_8_code
def yX5_seen : MethodName := ⟨RX5, "seen", "()I"⟩
abbrev cX5_edgeFound : ByteArray := prog_7_method_9_code
def yX5_edgeFound : MethodName := ⟨RX5, "edgeFound", "(I)I"⟩
def RX6 : String := "WavePairs"
def TX6 : u_T := fun k => match k with
  | 0 => ("WavePairs", "rows", "[LWavePairs$Row;", true)
  | 1 => ("WavePairs", "names", "[I", true)
  | 2 => ("WavePairs", "groups", "[I", true)
  | 3 => ("WavePairs", "shifts", "[I", true)
  | 4 => ("WavePairs", "masks", "[LWavePairs$Mask;", true)
  | 5 => ("WavePairs", "channels", "[LWavePairs$Channel;", true)
  | 6 => ("WavePairs", "gates", "[LWavePairs$Gate;", true)
  | 7 => ("WavePairs", "spans", "LWavePairs$Spans;", true)
  | 8 => ("WavePairs", "maskCount", "I", false)
  | 9 => ("WavePairs", "end", "I", false)
  | _ => ("WavePairs", "loose", "Z", false)
def tyX6 : Nat → FieldType := fun k => match k with
  | 0 => .array (.object "WavePairs$Row")
  | 1 => .array .int
  | 2 => .array .int
  | 3 => .array .int
  | 4 => .array (.object "WavePairs$Mask")
  | 5 => .array (.object "WavePairs$Channel")
  | 6 => .array (.object "WavePairs$Gate")
  | 7 => .object "WavePairs$Spans"
  | 8 => .int
  | 9 => .int
  | _ => .boolean
abbrev wsX60 : List Cond := u_ws RX6 TX6 11
theorem nmX6 : ∀ a, a < 11 → ∀ b, b < 11 → a ≠ b → (TX6 a).2.1 ≠ (TX6 b).2.1 := by decide +kernel
theorem tyX6_ok : ∀ k, k < 11 → parseFieldDescriptor (TX6 k).2.2.1 = some (tyX6 k) := by decide +kernel
abbrev cX6_init : ByteArray := prog_1_method_1_code
def yX6_init : MethodName := ⟨RX6, "<init>", "()V"⟩
abbrev cX6_change : ByteArray := prog_1_method_2_code
def yX6_change : MethodName := ⟨RX6, "change", "(IIII)I"⟩
abbrev cX6_changes : ByteArray := prog_1_method_3_code
def yX6_changes : MethodName := ⟨RX6, "changes", "(IIIJ)I"⟩
abbrev cX6_cut : ByteArray := prog_1_method_4_code
def yX6_cut : MethodName := ⟨RX6, "cut", "(III)I"⟩
abbrev cX6_value : ByteArray := prog_1_method_5_code
def yX6_value : MethodName := ⟨RX6, "value", "(III)I"⟩
abbrev cX6_areChanges : ByteArray := prog_1_method_6_code
def yX6_areChanges : MethodName := ⟨RX6, "areChanges", "(IIJ)Z"⟩
abbrev cX6_packedTicks : ByteArray := prog_1_method_7_code
def yX6_packedTicks : MethodName := ⟨RX6, "packedTicks", "(IJI)I"⟩
abbrev cX6_packedValue : ByteArray := prog_1_method_8_code
def yX6_packedValue : MethodName := ⟨RX6, "packedValue", "(IJI)I"⟩
abbrev cX6_packed : ByteArray := prog_1_method_9_code
def yX6_packed : MethodName := ⟨RX6, "packed", "(IJI)I"⟩
abbrev cX6_rule : ByteArray := prog_1_method_10_code
def yX6_rule : MethodName := ⟨RX6, "rule", "(II)I"⟩
abbrev cX6_call : ByteArray := prog_1_method_11_code
def yX6_call : MethodName := ⟨RX6, "call", "(III)I"⟩
abbrev cX6_shift : ByteArray := prog_1_method_12_code
def yX6_shift : MethodName := ⟨RX6, "shift", "(II)I"⟩
abbrev cX6_mask : ByteArray := prog_1_method_13_code
def yX6_mask : MethodName := ⟨RX6, "mask", "(III)I"⟩
abbrev cX6_maskWhile : ByteArray := prog_1_method_14_code
def yX6_maskWhile : MethodName := ⟨RX6, "maskWhile", "(III)I"⟩
abbrev cX6_noMasks : ByteArray := prog_1_method_15_code
def yX6_noMasks : MethodName := ⟨RX6, "noMasks", "()I"⟩
abbrev cX6_differences : ByteArray := prog_1_method_16_code
def yX6_differences : MethodName := ⟨RX6, "differences", "()I"⟩
abbrev cX6_difference : ByteArray := prog_1_method_17_code
def yX6_difference : MethodName := ⟨RX6, "difference", "(II)I"⟩
abbrev cX6_first : ByteArray := prog_1_method_18_code
def yX6_first : MethodName := ⟨RX6, "first", "()I"⟩
abbrev cX6_seekDifferences : ByteArray := prog_1_method_19_code
def yX6_seekDifferences : MethodName := ⟨RX6, "seekDifferences", "(II)V"⟩
abbrev cX6_channel : ByteArray := prog_1_method_20_code
def yX6_channel : MethodName := ⟨RX6, "channel", "(IIIII)I"⟩
abbrev cX6_act : ByteArray := prog_1_method_21_code
def yX6_act : MethodName := ⟨RX6, "act", "(IIII)I"⟩
abbrev cX6_unlike : ByteArray := prog_1_method_22_code
def yX6_unlike : MethodName := ⟨RX6, "unlike", "(I)I"⟩
abbrev cX6_nextAct : ByteArray := prog_1_method_23_code
def yX6_nextAct : MethodName := ⟨RX6, "nextAct", "(LWavePairs$Channel;II)I"⟩
abbrev cX6_hadOneAhead : ByteArray := prog_1_method_24_code
def yX6_hadOneAhead : MethodName := ⟨RX6, "hadOneAhead", "(III)Z"⟩
abbrev cX6_dataAhead : ByteArray := prog_1_method_25_code
def yX6_dataAhead : MethodName := ⟨RX6, "dataAhead", "(LWavePairs$Channel;II)I"⟩
abbrev cX6_fit : ByteArray := prog_1_method_26_code
def yX6_fit : MethodName := ⟨RX6, "fit", "(I)I"⟩
abbrev cX6_hasSignals : ByteArray := prog_1_method_27_code
def yX6_hasSignals : MethodName := ⟨RX6, "hasSignals", "(I)Z"⟩
abbrev cX6_fitsBy : ByteArray := prog_1_method_28_code
def yX6_fitsBy : MethodName := ⟨RX6, "fitsBy", "(II)Z"⟩
abbrev cX6_gate : ByteArray := prog_1_method_29_code
def yX6_gate : MethodName := ⟨RX6, "gate", "(IIII)I"⟩
abbrev cX6_guilty : ByteArray := prog_1_method_30_code
def yX6_guilty : MethodName := ⟨RX6, "guilty", "(I)I"⟩
abbrev cX6_inputsAgree : ByteArray := prog_1_method_31_code
def yX6_inputsAgree : MethodName := ⟨RX6, "inputsAgree", "(LWavePairs$Gate;I)Z"⟩
abbrev cX6_storedAgree : ByteArray := prog_1_method_32_code
def yX6_storedAgree : MethodName := ⟨RX6, "storedAgree", "(LWavePairs$Gate;I)Z"⟩
abbrev cX6_agreeAt : ByteArray := prog_1_method_33_code
def yX6_agreeAt : MethodName := ⟨RX6, "agreeAt", "(II)Z"⟩
abbrev cX6_alike : ByteArray := prog_1_method_34_code
def yX6_alike : MethodName := ⟨RX6, "alike", "(I)I"⟩
abbrev cX6_holds : ByteArray := prog_1_method_35_code
def yX6_holds : MethodName := ⟨RX6, "holds", "(IIIIIIII)I"⟩
abbrev cX6_window : ByteArray := prog_1_method_36_code
def yX6_window : MethodName := ⟨RX6, "window", "(IIIII)I"⟩
abbrev cX6_count : ByteArray := prog_1_method_37_code
def yX6_count : MethodName := ⟨RX6, "count", "(I)I"⟩
abbrev cX6_countChanges : ByteArray := prog_1_method_38_code
def yX6_countChanges : MethodName := ⟨RX6, "countChanges", "()I"⟩
abbrev cX6_countChannels : ByteArray := prog_1_method_39_code
def yX6_countChannels : MethodName := ⟨RX6, "countChannels", "()I"⟩
abbrev cX6_countGates : ByteArray := prog_1_method_40_code
def yX6_countGates : MethodName := ⟨RX6, "countGates", "()I"⟩
abbrev cX6_outside : ByteArray := prog_1_method_41_code
def yX6_outside : MethodName := ⟨RX6, "outside", "(III)Z"⟩
abbrev cX6_isNoSignal : ByteArray := prog_1_method_42_code
def yX6_isNoSignal : MethodName := ⟨RX6, "isNoSignal", "(I)Z"⟩
abbrev cX6_isNoRow : ByteArray := prog_1_method_43_code
def yX6_isNoRow : MethodName := ⟨RX6, "isNoRow", "(II)Z"⟩
abbrev cX6_isNoValue : ByteArray := prog_1_method_44_code
def yX6_isNoValue : MethodName := ⟨RX6, "isNoValue", "(I)Z"⟩
abbrev cX6_agree : ByteArray := prog_1_method_45_code
def yX6_agree : MethodName := ⟨RX6, "agree", "(IIZ)Z"⟩
abbrev cX6_rowOf : ByteArray := prog_1_method_46_code
def yX6_rowOf : MethodName := ⟨RX6, "rowOf", "(II)LWavePairs$Row;"⟩
abbrev cX6_namedRow : ByteArray := prog_1_method_47_code
def yX6_namedRow : MethodName := ⟨RX6, "namedRow", "(II)LWavePairs$Row;"⟩
def RX7 : String := "WavePairsModel"
def TX7 : u_T := fun k => match k with
  | 0 => ("WavePairsModel", "end", "I", false)
  | 1 => ("WavePairsModel", "loose", "I", false)
  | 2 => ("WavePairsModel", "many", "[I", true)
  | 3 => ("WavePairsModel", "tick", "[I", true)
  | 4 => ("WavePairsModel", "value", "[I", true)
  | 5 => ("WavePairsModel", "name", "[I", true)
  | 6 => ("WavePairsModel", "group", "[I", true)
  | 7 => ("WavePairsModel", "shifts", "[I", true)
  | 8 => ("WavePairsModel", "masks", "I", false)
  | 9 => ("WavePairsModel", "maskOf", "[I", true)
  | 10 => ("WavePairsModel", "maskA", "[I", true)
  | 11 => ("WavePairsModel", "maskB", "[I", true)
  | 12 => ("WavePairsModel", "maskBy", "[I", true)
  | 13 => ("WavePairsModel", "isChannel", "[Z", true)
  | 14 => ("WavePairsModel", "channel", "[I", true)
  | 15 => ("WavePairsModel", "gate", "[I", true)
  | 16 => ("WavePairsModel", "gateA", "[I", true)
  | 17 => ("WavePairsModel", "gateB", "[I", true)
  | 18 => ("WavePairsModel", "spanSignal", "I", false)
  | 19 => ("WavePairsModel", "spanFrom", "I", false)
  | 20 => ("WavePairsModel", "spanTo", "I", false)
  | 21 => ("WavePairsModel", "actTick", "I", false)
  | _ => ("WavePairsModel", "actValue", "I", false)
def tyX7 : Nat → FieldType := fun k => match k with
  | 0 => .int
  | 1 => .int
  | 2 => .array .int
  | 3 => .array .int
  | 4 => .array .int
  | 5 => .array .int
  | 6 => .array .int
  | 7 => .array .int
  | 8 => .int
  | 9 => .array .int
  | 10 => .array .int
  | 11 => .array .int
  | 12 => .array .int
  | 13 => .array .boolean
  | 14 => .array .int
  | 15 => .array .int
  | 16 => .array .int
  | 17 => .array .int
  | 18 => .int
  | 19 => .int
  | 20 => .int
  | 21 => .int
  | _ => .int
abbrev wsX70 : List Cond := u_ws RX7 TX7 23
theorem nmX7 : ∀ a, a < 23 → ∀ b, b < 23 → a ≠ b → (TX7 a).2.1 ≠ (TX7 b).2.1 := by decide +kernel
theorem tyX7_ok : ∀ k, k < 23 → parseFieldDescriptor (TX7 k).2.2.1 = some (tyX7 k) := by decide +kernel
abbrev cX7_init : ByteArray := prog_9_method_1_code
def yX7_init : MethodName := ⟨RX7, "<init>", "()V"⟩
abbrev cX7_in : ByteArray := prog_9_method_2_code
def yX7_in : MethodName := ⟨RX7, "in", "(III)Z"⟩
abbrev cX7_isSignal : ByteArray := prog_9_method_3_code
def yX7_isSignal : MethodName := ⟨RX7, "isSignal", "(I)Z"⟩
abbrev cX7_isRow : ByteArray := prog_9_method_4_code
def yX7_isRow : MethodName := ⟨RX7, "isRow", "(II)Z"⟩
abbrev cX7_last : ByteArray := prog_9_method_5_code
def yX7_last : MethodName := ⟨RX7, "last", "(I)I"⟩
abbrev cX7_lays : ByteArray := prog_9_method_6_code
def yX7_lays : MethodName := ⟨RX7, "lays", "(III)V"⟩
abbrev cX7_change : ByteArray := prog_9_method_7_code
def yX7_change : MethodName := ⟨RX7, "change", "(IIII)I"⟩
abbrev cX7_changes : ByteArray := prog_9_method_8_code
def yX7_changes : MethodName := ⟨RX7, "changes", "(IIIJ)I"⟩
abbrev cX7_cut : ByteArray := prog_9_method_9_code
def yX7_cut : MethodName := ⟨RX7, "cut", "(III)I"⟩
abbrev cX7_at : ByteArray := prog_9_method_10_code
def yX7_at : MethodName := ⟨RX7, "at", "(III)I"⟩
abbrev cX7_nextChange : ByteArray := prog_9_method_11_code
def yX7_nextChange : MethodName := ⟨RX7, "nextChange", "(III)I"⟩
abbrev cX7_value : ByteArray := prog_9_method_12_code
def yX7_value : MethodName := ⟨RX7, "value", "(III)I"⟩
abbrev cX7_rule : ByteArray := prog_9_method_13_code
def yX7_rule : MethodName := ⟨RX7, "rule", "(II)I"⟩
abbrev cX7_call : ByteArray := prog_9_method_14_code
def yX7_call : MethodName := ⟨RX7, "call", "(III)I"⟩
abbrev cX7_shift : ByteArray := prog_9_method_15_code
def yX7_shift : MethodName := ⟨RX7, "shift", "(II)I"⟩
abbrev cX7_masked : ByteArray := prog_9_method_16_code
def yX7_masked : MethodName := ⟨RX7, "masked", "(IIII)I"⟩
abbrev cX7_mask : ByteArray := prog_9_method_17_code
def yX7_mask : MethodName := ⟨RX7, "mask", "(III)I"⟩
abbrev cX7_maskWhile : ByteArray := prog_9_method_18_code
def yX7_maskWhile : MethodName := ⟨RX7, "maskWhile", "(III)I"⟩
abbrev cX7_noMasks : ByteArray := prog_9_method_19_code
def yX7_noMasks : MethodName := ⟨RX7, "noMasks", "()I"⟩
abbrev cX7_agree : ByteArray := prog_9_method_20_code
def yX7_agree : MethodName := ⟨RX7, "agree", "(II)Z"⟩
abbrev cX7_isMasked : ByteArray := prog_9_method_21_code
def yX7_isMasked : MethodName := ⟨RX7, "isMasked", "(II)Z"⟩
abbrev cX7_differs : ByteArray := prog_9_method_22_code
def yX7_differs : MethodName := ⟨RX7, "differs", "(III)Z"⟩
abbrev cX7_least : ByteArray := prog_9_method_23_code
def yX7_least : MethodName := ⟨RX7, "least", "(II)I"⟩
abbrev cX7_next : ByteArray := prog_9_method_24_code
def yX7_next : MethodName := ⟨RX7, "next", "(III)I"⟩
abbrev cX7_spans : ByteArray := prog_9_method_25_code
def yX7_spans : MethodName := ⟨RX7, "spans", "(I)I"⟩
abbrev cX7_found : ByteArray := prog_9_method_26_code
def yX7_found : MethodName := ⟨RX7, "found", "(IIIII)I"⟩
abbrev cX7_differences : ByteArray := prog_9_method_27_code
def yX7_differences : MethodName := ⟨RX7, "differences", "()I"⟩
abbrev cX7_difference : ByteArray := prog_9_method_28_code
def yX7_difference : MethodName := ⟨RX7, "difference", "(II)I"⟩
abbrev cX7_first : ByteArray := prog_9_method_29_code
def yX7_first : MethodName := ⟨RX7, "first", "()I"⟩
abbrev cX7_channel : ByteArray := prog_9_method_30_code
def yX7_channel : MethodName := ⟨RX7, "channel", "(IIIII)I"⟩
abbrev cX7_called : ByteArray := prog_9_method_31_code
def yX7_called : MethodName := ⟨RX7, "called", "(II)I"⟩
abbrev cX7_isEdge : ByteArray := prog_9_method_32_code
def yX7_isEdge : MethodName := ⟨RX7, "isEdge", "(III)Z"⟩
abbrev cX7_acts : ByteArray := prog_9_method_33_code
def yX7_acts : MethodName := ⟨RX7, "acts", "(III)I"⟩
abbrev cX7_act : ByteArray := prog_9_method_34_code
def yX7_act : MethodName := ⟨RX7, "act", "(IIII)I"⟩
abbrev cX7_unlike : ByteArray := prog_9_method_35_code
def yX7_unlike : MethodName := ⟨RX7, "unlike", "(I)I"⟩
abbrev cX7_fits : ByteArray := prog_9_method_36_code
def yX7_fits : MethodName := ⟨RX7, "fits", "(II)Z"⟩
abbrev cX7_fit : ByteArray := prog_9_method_37_code
def yX7_fit : MethodName := ⟨RX7, "fit", "(I)I"⟩
abbrev cX7_gate : ByteArray := prog_9_method_38_code
def yX7_gate : MethodName := ⟨RX7, "gate", "(IIII)I"⟩
abbrev cX7_agreeAt : ByteArray := prog_9_method_39_code
def yX7_agreeAt : MethodName := ⟨RX7, "agreeAt", "(II)Z"⟩
abbrev cX7_edge : ByteArray := prog_9_method_40_code
def yX7_edge : MethodName := ⟨RX7, "edge", "(III)I"⟩
abbrev cX7_inputsAgree : ByteArray := prog_9_method_41_code
def yX7_inputsAgree : MethodName := ⟨RX7, "inputsAgree", "(II)Z"⟩
abbrev cX7_guilty : ByteArray := prog_9_method_42_code
def yX7_guilty : MethodName := ⟨RX7, "guilty", "(I)I"⟩
abbrev cX7_behave : ByteArray := prog_9_method_43_code
def yX7_behave : MethodName := ⟨RX7, "behave", "(II)Z"⟩
abbrev cX7_alike : ByteArray := prog_9_method_44_code
def yX7_alike : MethodName := ⟨RX7, "alike", "(I)I"⟩
abbrev cX7_holds : ByteArray := prog_9_method_45_code
def yX7_holds : MethodName := ⟨RX7, "holds", "(IIIIIIII)I"⟩
abbrev cX7_window : ByteArray := prog_9_method_46_code
def yX7_window : MethodName := ⟨RX7, "window", "(IIIII)I"⟩
abbrev cX7_count : ByteArray := prog_9_method_47_code
def yX7_count : MethodName := ⟨RX7, "count", "(I)I"⟩
def RL : String := "WavePairsLaw"
abbrev cL_law : ByteArray := code
def yL_law : MethodName := ⟨RL, "law", "([I)Z"⟩
abbrev vwCl : List vw_C := [(RX0, TX0, 5), (RX1, TX1, 3), (RX2, TX2, 4), (RX3, TX3, 6), (RX4, TX4, 3), (RX5, TX5, 5), (RX6, TX6, 11), (RX7, TX7, 23)]
end
section
/-! The judgement wV: a method's body over a map from addresses to cells; numbers are Int, put into Int32 by gI. -/
abbrev wM : Type := Nat → Option va_E
abbrev mD : Type := MethodName × ByteArray × Nat × Option FieldType × Nat × Nat
abbrev gG : Type := Launch × va_G × (Nat → ClassId)
def gI (z : Int) : Int32 := Int32.ofInt z
def rng (z : Int) : Prop := -2147483648 ≤ z ∧ z ≤ 2147483647
theorem gI_toInt {z : Int} (h : rng z) : (gI z).toInt = z := by
  unfold gI; unfold rng at h
  rw [Int32.toInt_ofInt]
  exact Int.bmod_eq_of_le (by simp only [Int32.size]; omega) (by simp only [Int32.size]; omega)
theorem gI_of (x : Int32) : x = gI x.toInt := (Int32.ofInt_toInt x).symm
theorem rng_of (x : Int32) : rng x.toInt := ⟨Int32.le_toInt x, by have := Int32.toInt_lt x; omega⟩
theorem gI_add (x y : Int) : gI x + gI y = gI (x + y) := (Int32.ofInt_add x y).symm
theorem gI_sub (x y : Int) : gI x - gI y = gI (x - y) := (Int32.ofInt_sub x y).symm
theorem gI_mul (x y : Int) : gI x * gI y = gI (x * y) := (Int32.ofInt_mul x y).symm
theorem gI_neg (x : Int) : -gI x = gI (-x) := (Int32.ofInt_neg x).symm
theorem gI_lt {x y : Int} (hx : rng x) (hy : rng y) : gI x < gI y ↔ x < y := by
  rw [Int32.lt_iff_toInt_lt, gI_toInt hx, gI_toInt hy]
theorem gI_le {x y : Int} (hx : rng x) (hy : rng y) : gI x ≤ gI y ↔ x ≤ y := by
  rw [Int32.le_iff_toInt_le, gI_toInt hx, gI_toInt hy]
theorem gI_inj {x y : Int} (hx : rng x) (hy : rng y) : gI x = gI y ↔ x = y := by
  rw [← Int32.toInt_inj, gI_toInt hx, gI_toInt hy]
theorem gI_clamp {x : Int} (h0 : 0 ≤ x) (hx : x ≤ 2147483647) : (gI x).toNatClampNeg = x.toNat := by
  show (gI x).toInt.toNat = _
  rw [gI_toInt ⟨by omega, hx⟩]
theorem gI_in {x : Int} {n : Nat} (h0 : 0 ≤ x) (hn : x < n) (hb : n ≤ 2147483647) : vp_in (gI x) n := by
  rw [vp_in_iff, gI_toInt ⟨by omega, by omega⟩]
  exact ⟨h0, hn⟩
/-- array content: a number function put into cells -/
def gF (f : Nat → Int) : Nat → Int32 := fun j => gI (f j)
def upz (f : Nat → Int) (k : Nat) (x : Int) : Nat → Int := fun j => if j = k then x else f j
theorem gF_upd (f : Nat → Int) (k : Nat) (x : Int) : upd (gF f) k (gI x) = gF (upz f k x) := by
  funext j
  simp only [upd, gF, upz]
  split <;> rfl
def wup (M : wM) (a : Nat) (e : va_E) : wM := fun b => if b = a then some e else M b
def wR (M : wM) (ws : va_W) : Prop := ∀ (a : Nat) (e : va_E), M a = some e ↔ (a, e) ∈ ws
def wW (D : va_G) (A : Nat → Prop) (M : wM) (H : Heap) : Prop := ∃ ws : va_W, va_P D vwCl ws H ∧ va_D A ws ∧ wR M ws
theorem wR.set {M : wM} {ws : va_W} {A : Nat → Prop} {q0 a : Nat} {e0 e1 : va_E} (hR : wR M ws) (hD : va_D A ws) (h0 : ws[q0]? = some (a, e0)) : wR (wup M a e1) (ws.set q0 (a, e1)) := by
  intro b e
  have hlt : q0 < ws.length := (List.getElem?_eq_some_iff.mp h0).1
  constructor
  · intro h
    unfold wup at h
    by_cases hb : b = a
    · subst hb
      rw [if_pos rfl] at h
      cases h
      exact List.mem_of_getElem? (i := q0) (by rw [List.getElem?_set]; simp [hlt])
    · rw [if_neg hb] at h
      obtain ⟨i, hi⟩ := List.getElem?_of_mem ((hR b e).mp h)
      refine List.mem_of_getElem? (i := i) ?_
      rw [List.getElem?_set]
      have : q0 ≠ i := fun hq => by
        subst hq
        rw [h0] at hi
        cases hi
        exact hb rfl
      rw [if_neg this]
      exact hi
  · intro h
    obtain ⟨i, hi⟩ := List.getElem?_of_mem h
    rw [List.getElem?_set] at hi
    unfold wup
    by_cases hq : q0 = i
    · subst hq
      simp only [hlt, if_true] at hi
      cases hi
      rw [if_pos rfl]
    · rw [if_neg hq] at hi
      have hb : b ≠ a := fun hb => by
        subst hb
        exact hq (hD.1 q0 i _ _ h0 hi rfl)
      rw [if_neg hb]
      exact (hR b e).mpr (List.mem_of_getElem? hi)
theorem wR.app {M : wM} {ws : va_W} {A : Nat → Prop} {a : Nat} {e1 : va_E} (hR : wR M ws) (hD : va_D A (ws ++ [(a, e1)])) : M a = none ∧ wR (wup M a e1) (ws ++ [(a, e1)]) := by
  have hn : ∀ e, M a ≠ some e := fun e h => by
    obtain ⟨i, hi⟩ := List.getElem?_of_mem ((hR a e).mp h)
    have hlt : i < ws.length := (List.getElem?_eq_some_iff.mp hi).1
    have := hD.1 i ws.length (a, e) (a, e1) (by rw [List.getElem?_append_left hlt]; exact hi) (by simp) rfl
    omega
  have hM : M a = none := by
    cases h : M a with
    | none => rfl
    | some e => exact absurd h (hn e)
  refine ⟨hM, fun b e => ?_⟩
  unfold wup
  rw [List.mem_append, List.mem_singleton]
  by_cases hb : b = a
  · subst hb
    rw [if_pos rfl]
    constructor
    · intro h
      cases h
      exact Or.inr rfl
    · rintro (h | h)
      · exact absurd ((hR b e).mpr h) (hn e)
      · cases h
        rfl
  · rw [if_neg hb, hR b e]
    constructor
    · exact Or.inl
    · rintro (h | h)
      · exact h
      · cases h
        exact absurd rfl hb
def lw_good : List Cond := lw_tbl.filter goodWord
def is_nest : Cond → Bool
  | .fieldLinkNest _ _ _ _ _ _ => true
  | .methodLinkNest _ _ _ _ => true
  | _ => false
def lw_nest : List Cond := lw_tbl.filter is_nest
def ws_of (q : mD) : List Cond := Cond.code q.1 q.2.1 q.2.2.1 q.2.2.2.1 :: lw_good
def rm_of (q : mD) (mc ms : Nat) : Room := { frames := q.2.2.2.2.1, cells := mc, slots := ms, locals := q.2.2.2.2.2 }
theorem good_all {w : Cond} (h : w ∈ lw_good) : (w.onTables && w.keeps) = true ∨ ∃ ty, w = .arrayClass ty := good_of_word (List.mem_filter.mp h).2
theorem goodIn_ws (q q2 : mD) (h : Cond.code q2.1 q2.2.1 q2.2.2.1 q2.2.2.2.1 ∈ lw_good) : GoodIn (ws_of q) (ws_of q2) := by
  intro w hw
  have hw' : w ∈ lw_good := by
    rcases List.mem_cons.mp hw with rfl | h2
    · exact h
    · exact h2
  exact ⟨List.mem_cons_of_mem _ hw', good_all hw'⟩
def wK (G : gG) (U : State) : Prop := va_K G.2.1 vwCl [(G.2.2 0, .int), (G.2.2 1, .boolean), (G.2.2 2, .object "WavePairs$Row"), (G.2.2 3, .object "WavePairs$Mask"), (G.2.2 4, .object "WavePairs$Channel"), (G.2.2 5, .object "WavePairs$Gate"), (G.2.2 6, .object "WavePairs$Pair")] U ∧ ∀ w ∈ lw_nest, va_Nw w U
theorem wK.warm {G : gG} {s U : State} (hW : s.WarmedH U.vm) (h : wK G s) : wK G U := by
  refine ⟨h.1.moved hW.alike, fun w hw => ?_⟩
  have h2 := (List.mem_filter.mp hw).2
  have h3 := h.2 w hw
  cases w <;> first | exact absurd h2 Bool.false_ne_true | exact va_Nw.warmF hW h3 | exact va_Nw.warmM hW h3
theorem wK.same {G : gG} {s U : State} (hv : s.vm = U.vm) (h : wK G s) : wK G U := by
  refine ⟨h.1.moved (hv ▸ Vm.Alike.refl s.vm), fun w hw => ?_⟩
  have h2 := (List.mem_filter.mp hw).2
  have h3 := h.2 w hw
  cases w <;> first | exact absurd h2 Bool.false_ne_true | exact va_Nw.same rfl hv h3
def wA (M : wM) (sz : Nat) : Nat → Prop := fun a => M a ≠ none ∨ sz ≤ a
def wQ (G : gG) (M : wM) (sz : Nat) (Post : Option Value → wM → Prop) : Array Value → State → Outcome → State → Prop := fun _ st oc t =>
  (∃ (v : Option Value) (M' : wM), oc = .returned v ∧ Post v M' ∧ wW G.2.1 (wA M sz) M' t.heap ∧ ∀ a, M a ≠ none → M' a ≠ none) ∧ va_F (wA M sz) st t
/-- a method's contract over a map of cells -/
def wT (G : gG) (q : mD) (mc ms : Nat) (args : List Value) (M : wM) (Post : Option Value → wM → Prop) : Prop :=
  ∀ sz : Nat, Met G.1 q.1 (ws_of q) (rm_of q mc ms) (va_Pc args (fun U => U.heap.size = sz ∧ wW G.2.1 (fun _ => True) M U.heap ∧ wK G U)) (wQ G M sz Post) mc ms (wA M sz)
def cX (G : gG) (q : mD) (p : Program) (s : State) (m : MethodId) (args : Array Value) (meth : Method) (c : Code) : Prop :=
  p.tables.exec = Jvm.exec ∧ c.code = q.2.1 ∧ c.maxLocals = q.2.2.1 ∧ meth.sig.returnType = q.2.2.2.1 ∧ s.vm.findClass q.1.cls = some m.cls ∧ (∀ w ∈ ws_of q, w.before args s = true) ∧ wK G s ∧ meth.locks = false ∧ meth.name = q.1.name
def wV (G : gG) (q : mD) (mc ms sz : Nat) (M0 : wM) (kc ks : Nat) (pc : Nat) (lv : List (Nat × Value)) (st : List Value) (M : wM) (Post : Option Value → wM → Prop) : Prop :=
  ∀ (p : Program) (e : Env) (s : State) (m : MethodId) (args : Array Value) (below : List Frame) (meth : Method) (c : Code) (H : Heap) (locs : List Loc) (ls : Array Slot),
    cX G q p s m args meth c → s.heap.size = sz → wW G.2.1 (wA M0 sz) M H → (∀ a, M0 a ≠ none → M a ≠ none) → va_S (wA M0 sz) s.heap H locs → lv_has ls q.2.2.1 lv →
    W p G.1 e (rm_of q mc ms) s m args below meth c H locs kc ks (MQ below (wQ G M0 sz Post) args s mc ms (wA M0 sz)) (F0 m pc ls st)
theorem wW.weaken {D : va_G} {A B : Nat → Prop} {M : wM} {H : Heap} (h : wW D A M H) (hAB : ∀ a, M a ≠ none → A a → B a) : wW D B M H := by
  obtain ⟨ws, hP, hD, hR⟩ := h
  refine ⟨ws, hP, hD.weaken (fun k q hk hq => hAB _ ?_ hq), hR⟩
  rw [(hR q.1 q.2).mpr (List.mem_of_getElem? hk)]
  exact fun h => by cases h
theorem wT.intro {G : gG} {q : mD} {mc ms : Nat} {args : List Value} {M : wM} {Post : Option Value → wM → Prop} (hy : plainName q.1.cls = true) (hlen : (lg_sl args).length ≤ q.2.2.1)
    (h : ∀ sz, wV G q mc ms sz M 0 0 0 (lv_args 0 args) [] M Post) : wT G q mc ms args M Post := by
  intro sz
  refine Met.ofW (cc := q.2.1) (maxL := q.2.2.1) (ret := q.2.2.2.1) (ws' := lw_good) hy rfl ?_
  intro p e s m args' below meth c s₁ B hml hv
  obtain ⟨rfl, hsz, hW, hK⟩ := hv
  have hts := atoms_spec (ws := ws_of q) B.pre
  have hown : s.vm.findClass q.1.cls = some m.cls := findClass_of_methodNamed B.named
  have hl := lv_entry args (n := q.2.2.1) hlen
  rw [lg_entry_eq]
  refine h sz p e s m _ below meth c s.heap [] _ ⟨B.exec, B.bytes, hml, B.returns, hown, hts, hK, B.notSynchronized, (name_of_methodNamed B.named B.method).1⟩ hsz ?_ (fun _ h => h) va_S.rf hl
  exact hW.weaken (fun a ha _ => Or.inl ha)
end
section
section WRULES
variable {G : gG} {q : mD} {mc ms sz kc ks pc : Nat} {M0 M : wM} {lv : List (Nat × Value)} {st rest : List Value} {Post : Option Value → wM → Prop}
def vld : List (Nat × Value) → Nat → Option Value
  | [], _ => none
  | (j, v) :: r, i => match Nat.beq j i with
    | true => some v
    | false => vld r i
def vst (i : Nat) (v : Value) (lv : List (Nat × Value)) : List (Nat × Value) := (i, v) :: lv.filter (fun q => !(q.1 == i) && !(q.1 + 1 == i && q.2.category == 2))
def vsub (lv : List (Nat × Value)) : List (Nat × Value) → Prop
  | [] => True
  | (i, v) :: r => vld lv i = some v ∧ vsub lv r
theorem vld_mem {lv : List (Nat × Value)} {i : Nat} {v : Value} (h : vld lv i = some v) : (i, v) ∈ lv := by
  induction lv with
  | nil => cases h
  | cons a r ih =>
    obtain ⟨j, w⟩ := a
    unfold vld at h
    split at h
    · rename_i hb
      cases h
      rw [Nat.eq_of_beq_eq_true hb]
      exact List.mem_cons_self
    · exact List.mem_cons_of_mem _ (ih h)
theorem vld_at {ls : Array Slot} {n i : Nat} {lv : List (Nat × Value)} {v : Value} (hl : lv_has ls n lv) (h : vld lv i = some v) : ls[i]? = some (.val v) := hl.2.2 _ (vld_mem h)
theorem vsub_has {ls : Array Slot} {n : Nat} {lv lv' : List (Nat × Value)} (hl : lv_has ls n lv) (h : vsub lv lv') : lv_has ls n lv' := by
  refine ⟨hl.1, hl.2.1, ?_⟩
  induction lv' with
  | nil => intro q hq; cases hq
  | cons a r ih =>
    intro q hq
    rcases List.mem_cons.mp hq with rfl | h2
    · exact vld_at hl h.1
    · exact ih h.2 q h2
theorem wV.locs {lv' : List (Nat × Value)} (h : vsub lv lv') (k : wV G q mc ms sz M0 kc ks pc lv' st M Post) : wV G q mc ms sz M0 kc ks pc lv st M Post :=
  fun p e s m args below meth c H locs ls C hsz hW hm hS hl => k p e s m args below meth c H locs ls C hsz hW hm hS (vsub_has hl h)
theorem wV.stk {st' : List Value} (h : st = st') (k : wV G q mc ms sz M0 kc ks pc lv st' M Post) : wV G q mc ms sz M0 kc ks pc lv st M Post := h ▸ k
theorem wV.map {M' : wM} (h : M = M') (k : wV G q mc ms sz M0 kc ks pc lv st M' Post) : wV G q mc ms sz M0 kc ks pc lv st M Post := h ▸ k
theorem wV.post {Post' : Option Value → wM → Prop} (h : ∀ v M', Post' v M' → Post v M') (k : wV G q mc ms sz M0 kc ks pc lv st M Post') : wV G q mc ms sz M0 kc ks pc lv st M Post := by
  intro p e s m args below meth c H locs ls C hsz hW hm hS hl T hT X
  obtain ⟨t, a, o, b1, b2, ⟨⟨v, M', c1, c2, c3⟩, c4⟩, b4⟩ := k p e s m args below meth c H locs ls C hsz hW hm hS hl T hT X
  exact ⟨t, a, o, b1, b2, ⟨⟨v, M', c1, h v M' c2, c3⟩, c4⟩, b4⟩
theorem v_iconst {n : Int} (hd : decode q.2.1 pc = .ok (.iconst n, 1)) (k : wV G q mc ms sz M0 kc ks (pc + 1) lv (.int (gI n) :: st) M Post) : wV G q mc ms sz M0 kc ks pc lv (st) M Post := by
  intro p e s m args below meth c H locs ls C hsz hW hm hS hl
  refine lv_iconst (v := gI n) C.1 C.2.1 hd rfl ?_
  exact k p e s m args below meth c H locs ls C hsz hW hm hS hl
theorem v_bipush {n : Int} (hd : decode q.2.1 pc = .ok (.bipush n, 2)) (h : (Int8.ofInt n).toInt32 = gI n) (k : wV G q mc ms sz M0 kc ks (pc + 2) lv (.int (gI n) :: st) M Post) : wV G q mc ms sz M0 kc ks pc lv (st) M Post := by
  intro p e s m args below meth c H locs ls C hsz hW hm hS hl
  refine lv_bipush (v := gI n) C.1 C.2.1 hd h ?_
  exact k p e s m args below meth c H locs ls C hsz hW hm hS hl
theorem v_sipush {n : Int} (hd : decode q.2.1 pc = .ok (.sipush n, 3)) (h : (Int16.ofInt n).toInt32 = gI n) (k : wV G q mc ms sz M0 kc ks (pc + 3) lv (.int (gI n) :: st) M Post) : wV G q mc ms sz M0 kc ks pc lv (st) M Post := by
  intro p e s m args below meth c H locs ls C hsz hW hm hS hl
  refine lv_sipush (v := gI n) C.1 C.2.1 hd h ?_
  exact k p e s m args below meth c H locs ls C hsz hW hm hS hl
theorem v_iloadn {i : Fin 4} {x : Int32} (hd : decode q.2.1 pc = .ok (.iload_n i, 1)) (h : vld lv i = some (.int x)) (k : wV G q mc ms sz M0 kc ks (pc + 1) lv (.int x :: st) M Post) : wV G q mc ms sz M0 kc ks pc lv (st) M Post := by
  intro p e s m args below meth c H locs ls C hsz hW hm hS hl
  refine lv_iload_n C.1 C.2.1 hd rfl (vld_at hl h) ?_
  exact k p e s m args below meth c H locs ls C hsz hW hm hS hl
theorem v_iload {i : Nat} {x : Int32} (hd : decode q.2.1 pc = .ok (.iload i, 2)) (h : vld lv i = some (.int x)) (k : wV G q mc ms sz M0 kc ks (pc + 2) lv (.int x :: st) M Post) : wV G q mc ms sz M0 kc ks pc lv (st) M Post := by
  intro p e s m args below meth c H locs ls C hsz hW hm hS hl
  refine lv_iload C.1 C.2.1 hd (vld_at hl h) ?_
  exact k p e s m args below meth c H locs ls C hsz hW hm hS hl
theorem v_lloadn {i : Fin 4} {x : Int64} (hd : decode q.2.1 pc = .ok (.lload_n i, 1)) (h : vld lv i = some (.long x)) (k : wV G q mc ms sz M0 kc ks (pc + 1) lv (.long x :: st) M Post) : wV G q mc ms sz M0 kc ks pc lv (st) M Post := by
  intro p e s m args below meth c H locs ls C hsz hW hm hS hl
  refine lv_lload_n C.1 C.2.1 hd rfl (vld_at hl h) ?_
  exact k p e s m args below meth c H locs ls C hsz hW hm hS hl
theorem v_lload {i : Nat} {x : Int64} (hd : decode q.2.1 pc = .ok (.lload i, 2)) (h : vld lv i = some (.long x)) (k : wV G q mc ms sz M0 kc ks (pc + 2) lv (.long x :: st) M Post) : wV G q mc ms sz M0 kc ks pc lv (st) M Post := by
  intro p e s m args below meth c H locs ls C hsz hW hm hS hl
  refine lv_lload C.1 C.2.1 hd (vld_at hl h) ?_
  exact k p e s m args below meth c H locs ls C hsz hW hm hS hl
theorem v_aloadn {i : Fin 4} {x : Nat} (hd : decode q.2.1 pc = .ok (.aload_n i, 1)) (h : vld lv i = some (.ref x)) (k : wV G q mc ms sz M0 kc ks (pc + 1) lv (.ref x :: st) M Post) : wV G q mc ms sz M0 kc ks pc lv (st) M Post := by
  intro p e s m args below meth c H locs ls C hsz hW hm hS hl
  refine lv_aload_n C.1 C.2.1 hd rfl (vld_at hl h) ?_
  exact k p e s m args below meth c H locs ls C hsz hW hm hS hl
theorem v_aload {i : Nat} {x : Nat} (hd : decode q.2.1 pc = .ok (.aload i, 2)) (h : vld lv i = some (.ref x)) (k : wV G q mc ms sz M0 kc ks (pc + 2) lv (.ref x :: st) M Post) : wV G q mc ms sz M0 kc ks pc lv (st) M Post := by
  intro p e s m args below meth c H locs ls C hsz hW hm hS hl
  refine lv_aload C.1 C.2.1 hd (vld_at hl h) ?_
  exact k p e s m args below meth c H locs ls C hsz hW hm hS hl
theorem v_iadd {x y : Int} (hd : decode q.2.1 pc = .ok (.iadd, 1)) (k : wV G q mc ms sz M0 kc ks (pc + 1) lv (.int (gI (x + y)) :: st) M Post) : wV G q mc ms sz M0 kc ks pc lv (.int (gI y) :: .int (gI x) :: st) M Post := by
  intro p e s m args below meth c H locs ls C hsz hW hm hS hl
  refine lv_iadd C.1 C.2.1 hd ?_
  rw [gI_add]
  exact k p e s m args below meth c H locs ls C hsz hW hm hS hl
theorem v_isub {x y : Int} (hd : decode q.2.1 pc = .ok (.isub, 1)) (k : wV G q mc ms sz M0 kc ks (pc + 1) lv (.int (gI (x - y)) :: st) M Post) : wV G q mc ms sz M0 kc ks pc lv (.int (gI y) :: .int (gI x) :: st) M Post := by
  intro p e s m args below meth c H locs ls C hsz hW hm hS hl
  refine lv_isub C.1 C.2.1 hd ?_
  rw [gI_sub]
  exact k p e s m args below meth c H locs ls C hsz hW hm hS hl
theorem v_imul {x y : Int} (hd : decode q.2.1 pc = .ok (.imul, 1)) (k : wV G q mc ms sz M0 kc ks (pc + 1) lv (.int (gI (x * y)) :: st) M Post) : wV G q mc ms sz M0 kc ks pc lv (.int (gI y) :: .int (gI x) :: st) M Post := by
  intro p e s m args below meth c H locs ls C hsz hW hm hS hl
  refine lv_imul C.1 C.2.1 hd ?_
  rw [gI_mul]
  exact k p e s m args below meth c H locs ls C hsz hW hm hS hl
theorem v_ineg {x : Int} (hd : decode q.2.1 pc = .ok (.ineg, 1)) (k : wV G q mc ms sz M0 kc ks (pc + 1) lv (.int (gI (-x)) :: st) M Post) : wV G q mc ms sz M0 kc ks pc lv (.int (gI x) :: st) M Post := by
  intro p e s m args below meth c H locs ls C hsz hW hm hS hl
  refine lv_ineg C.1 C.2.1 hd ?_
  rw [gI_neg]
  exact k p e s m args below meth c H locs ls C hsz hW hm hS hl
theorem v_iand {x y : Int32} (hd : decode q.2.1 pc = .ok (.iand, 1)) (k : wV G q mc ms sz M0 kc ks (pc + 1) lv (.int (x &&& y) :: st) M Post) : wV G q mc ms sz M0 kc ks pc lv (.int y :: .int x :: st) M Post := by
  intro p e s m args below meth c H locs ls C hsz hW hm hS hl
  refine lv_iand C.1 C.2.1 hd ?_
  exact k p e s m args below meth c H locs ls C hsz hW hm hS hl
theorem v_ior {x y : Int32} (hd : decode q.2.1 pc = .ok (.ior, 1)) (k : wV G q mc ms sz M0 kc ks (pc + 1) lv (.int (x ||| y) :: st) M Post) : wV G q mc ms sz M0 kc ks pc lv (.int y :: .int x :: st) M Post := by
  intro p e s m args below meth c H locs ls C hsz hW hm hS hl
  refine lv_ior C.1 C.2.1 hd ?_
  exact k p e s m args below meth c H locs ls C hsz hW hm hS hl
theorem v_ishl {x y : Int32} (hd : decode q.2.1 pc = .ok (.ishl, 1)) (k : wV G q mc ms sz M0 kc ks (pc + 1) lv (.int (x <<< (y &&& 31)) :: st) M Post) : wV G q mc ms sz M0 kc ks pc lv (.int y :: .int x :: st) M Post := by
  intro p e s m args below meth c H locs ls C hsz hW hm hS hl
  refine lv_ishl C.1 C.2.1 hd ?_
  exact k p e s m args below meth c H locs ls C hsz hW hm hS hl
theorem v_ishr {x y : Int32} (hd : decode q.2.1 pc = .ok (.ishr, 1)) (k : wV G q mc ms sz M0 kc ks (pc + 1) lv (.int (x >>> (y &&& 31)) :: st) M Post) : wV G q mc ms sz M0 kc ks pc lv (.int y :: .int x :: st) M Post := by
  intro p e s m args below meth c H locs ls C hsz hW hm hS hl
  refine lv_ishr C.1 C.2.1 hd ?_
  exact k p e s m args below meth c H locs ls C hsz hW hm hS hl
theorem v_iushr {x y : Int32} (hd : decode q.2.1 pc = .ok (.iushr, 1)) (k : wV G q mc ms sz M0 kc ks (pc + 1) lv (.int (x.toUInt32 >>> (y.toUInt32 &&& Int32.toUInt32 31)).toInt32 :: st) M Post) : wV G q mc ms sz M0 kc ks pc lv (.int y :: .int x :: st) M Post := by
  intro p e s m args below meth c H locs ls C hsz hW hm hS hl
  refine lv_iushr C.1 C.2.1 hd rfl ?_
  exact k p e s m args below meth c H locs ls C hsz hW hm hS hl
theorem v_lushr {x : Int64} {y : Int32} (hd : decode q.2.1 pc = .ok (.lushr, 1)) (k : wV G q mc ms sz M0 kc ks (pc + 1) lv (.long (x.toUInt64 >>> (y.toInt64.toUInt64 &&& Int64.toUInt64 63)).toInt64 :: st) M Post) : wV G q mc ms sz M0 kc ks pc lv (.int y :: .long x :: st) M Post := by
  intro p e s m args below meth c H locs ls C hsz hW hm hS hl
  refine lv_lushr C.1 C.2.1 hd rfl ?_
  exact k p e s m args below meth c H locs ls C hsz hW hm hS hl
theorem v_lshr {x : Int64} {y : Int32} (hd : decode q.2.1 pc = .ok (.lshr, 1)) (k : wV G q mc ms sz M0 kc ks (pc + 1) lv (.long (x >>> (y.toInt64 &&& 63)) :: st) M Post) : wV G q mc ms sz M0 kc ks pc lv (.int y :: .long x :: st) M Post := by
  intro p e s m args below meth c H locs ls C hsz hW hm hS hl
  refine lv_lshr C.1 C.2.1 hd rfl ?_
  exact k p e s m args below meth c H locs ls C hsz hW hm hS hl
theorem v_lshl {x : Int64} {y : Int32} (hd : decode q.2.1 pc = .ok (.lshl, 1)) (k : wV G q mc ms sz M0 kc ks (pc + 1) lv (.long (x <<< (y.toInt64 &&& 63)) :: st) M Post) : wV G q mc ms sz M0 kc ks pc lv (.int y :: .long x :: st) M Post := by
  intro p e s m args below meth c H locs ls C hsz hW hm hS hl
  refine lv_lshl C.1 C.2.1 hd rfl ?_
  exact k p e s m args below meth c H locs ls C hsz hW hm hS hl
theorem v_land {x y : Int64} (hd : decode q.2.1 pc = .ok (.land, 1)) (k : wV G q mc ms sz M0 kc ks (pc + 1) lv (.long (x &&& y) :: st) M Post) : wV G q mc ms sz M0 kc ks pc lv (.long y :: .long x :: st) M Post := by
  intro p e s m args below meth c H locs ls C hsz hW hm hS hl
  refine lv_land C.1 C.2.1 hd ?_
  exact k p e s m args below meth c H locs ls C hsz hW hm hS hl
theorem v_lor {x y : Int64} (hd : decode q.2.1 pc = .ok (.lor, 1)) (k : wV G q mc ms sz M0 kc ks (pc + 1) lv (.long (x ||| y) :: st) M Post) : wV G q mc ms sz M0 kc ks pc lv (.long y :: .long x :: st) M Post := by
  intro p e s m args below meth c H locs ls C hsz hW hm hS hl
  refine lv_lor C.1 C.2.1 hd ?_
  exact k p e s m args below meth c H locs ls C hsz hW hm hS hl
theorem v_i2l {x : Int32} (hd : decode q.2.1 pc = .ok (.i2l, 1)) (k : wV G q mc ms sz M0 kc ks (pc + 1) lv (.long x.toInt64 :: st) M Post) : wV G q mc ms sz M0 kc ks pc lv (.int x :: st) M Post := by
  intro p e s m args below meth c H locs ls C hsz hW hm hS hl
  refine lv_i2l C.1 C.2.1 hd rfl ?_
  exact k p e s m args below meth c H locs ls C hsz hW hm hS hl
theorem v_l2i {x : Int64} (hd : decode q.2.1 pc = .ok (.l2i, 1)) (k : wV G q mc ms sz M0 kc ks (pc + 1) lv (.int x.toInt32 :: st) M Post) : wV G q mc ms sz M0 kc ks pc lv (.long x :: st) M Post := by
  intro p e s m args below meth c H locs ls C hsz hW hm hS hl
  refine lv_l2i C.1 C.2.1 hd rfl ?_
  exact k p e s m args below meth c H locs ls C hsz hW hm hS hl
theorem v_dup {v : Value} (hd : decode q.2.1 pc = .ok (.dup, 1)) (h : v.category = 1) (k : wV G q mc ms sz M0 kc ks (pc + 1) lv (v :: v :: st) M Post) : wV G q mc ms sz M0 kc ks pc lv (v :: st) M Post := by
  intro p e s m args below meth c H locs ls C hsz hW hm hS hl
  refine lv_dup C.1 C.2.1 hd h ?_
  exact k p e s m args below meth c H locs ls C hsz hW hm hS hl
theorem v_pop {v : Value} (hd : decode q.2.1 pc = .ok (.pop, 1)) (h : v.category = 1) (k : wV G q mc ms sz M0 kc ks (pc + 1) lv (st) M Post) : wV G q mc ms sz M0 kc ks pc lv (v :: st) M Post := by
  intro p e s m args below meth c H locs ls C hsz hW hm hS hl
  refine lv_pop C.1 C.2.1 hd h ?_
  exact k p e s m args below meth c H locs ls C hsz hW hm hS hl
theorem v_dup2 {v w : Value} (hd : decode q.2.1 pc = .ok (.dup2, 1)) (h : v.category = 1) (h2 : w.category = 1) (k : wV G q mc ms sz M0 kc ks (pc + 1) lv (v :: w :: v :: w :: st) M Post) : wV G q mc ms sz M0 kc ks pc lv (v :: w :: st) M Post := by
  intro p e s m args below meth c H locs ls C hsz hW hm hS hl
  refine lv_dup2_11 C.1 C.2.1 hd h h2 ?_
  exact k p e s m args below meth c H locs ls C hsz hW hm hS hl
theorem v_idiv2 {x : Int} (hd : decode q.2.1 pc = .ok (.idiv, 1)) (h0 : 0 ≤ x) (h1 : x ≤ 2147483647) (k : wV G q mc ms sz M0 kc ks (pc + 1) lv (.int (gI (x / 2)) :: st) M Post) : wV G q mc ms sz M0 kc ks pc lv (.int (gI 2) :: .int (gI x) :: st) M Post := by
  intro p e s m args below meth c H locs ls C hsz hW hm hS hl
  refine lv_idiv C.1 C.2.1 hd (by decide) ?_
  rw [show gI x / gI 2 = gI (x / 2) from by
    apply Int32.toInt_inj.mp
    rw [Int32.toInt_div_of_ne_right _ _ (by decide), gI_toInt ⟨by omega, h1⟩, gI_toInt (z := x / 2) ⟨by omega, by omega⟩, show (gI 2).toInt = 2 from by decide, Int.tdiv_eq_ediv_of_nonneg h0]]
  exact k p e s m args below meth c H locs ls C hsz hW hm hS hl
theorem v_istoren {i : Fin 4} {x : Int32} (hd : decode q.2.1 pc = .ok (.istore_n i, 1)) (hi : i.val < q.2.2.1) (k : wV G q mc ms sz M0 kc ks (pc + 1) (vst i.val (.int x) lv) st M Post) : wV G q mc ms sz M0 kc ks pc lv (.int x :: st) M Post := by
  intro p e s m args below meth c H locs ls C hsz hW hm hS hl
  exact lv_istore_n C.1 C.2.1 hd rfl hl hi rfl (fun ls' hl' => k p e s m args below meth c H locs ls' C hsz hW hm hS hl')
theorem v_istore {i : Nat} {x : Int32} (hd : decode q.2.1 pc = .ok (.istore i, 2)) (hi : i < q.2.2.1) (k : wV G q mc ms sz M0 kc ks (pc + 2) (vst i (.int x) lv) st M Post) : wV G q mc ms sz M0 kc ks pc lv (.int x :: st) M Post := by
  intro p e s m args below meth c H locs ls C hsz hW hm hS hl
  exact lv_istore C.1 C.2.1 hd hl hi rfl (fun ls' hl' => k p e s m args below meth c H locs ls' C hsz hW hm hS hl')
theorem v_astoren {i : Fin 4} {x : Nat} (hd : decode q.2.1 pc = .ok (.astore_n i, 1)) (hi : i.val < q.2.2.1) (k : wV G q mc ms sz M0 kc ks (pc + 1) (vst i.val (.ref x) lv) st M Post) : wV G q mc ms sz M0 kc ks pc lv (.ref x :: st) M Post := by
  intro p e s m args below meth c H locs ls C hsz hW hm hS hl
  exact lv_astore_n C.1 C.2.1 hd rfl hl hi rfl (fun ls' hl' => k p e s m args below meth c H locs ls' C hsz hW hm hS hl')
theorem v_astore {i : Nat} {x : Nat} (hd : decode q.2.1 pc = .ok (.astore i, 2)) (hi : i < q.2.2.1) (k : wV G q mc ms sz M0 kc ks (pc + 2) (vst i (.ref x) lv) st M Post) : wV G q mc ms sz M0 kc ks pc lv (.ref x :: st) M Post := by
  intro p e s m args below meth c H locs ls C hsz hW hm hS hl
  exact lv_astore C.1 C.2.1 hd hl hi rfl (fun ls' hl' => k p e s m args below meth c H locs ls' C hsz hW hm hS hl')
theorem v_iinc {i : Nat} {n : Int} {x : Int} (hd : decode q.2.1 pc = .ok (.iinc i n, 3)) (h : vld lv i = some (.int (gI x))) (hi : i < q.2.2.1) (k : wV G q mc ms sz M0 kc ks (pc + 3) (vst i (.int (gI (x + n))) lv) st M Post) : wV G q mc ms sz M0 kc ks pc lv st M Post := by
  intro p e s m args below meth c H locs ls C hsz hW hm hS hl
  obtain ⟨j, hj⟩ := List.getElem?_of_mem (vld_mem h)
  exact lv_iinc (v := gI (x + n)) C.1 C.2.1 hd hl hj (gI_add x n) hi rfl (fun ls' hl' => k p e s m args below meth c H locs ls' C hsz hW hm hS hl')
theorem v_goto {off : Int} (tgt : Nat) (hd : decode q.2.1 pc = .ok (.goto off, 3)) (ht : (pc : Int) + off = (tgt : Int)) (k : wV G q mc ms sz M0 kc ks tgt lv st M Post) : wV G q mc ms sz M0 kc ks pc lv st M Post := by
  intro p e s m args below meth c H locs ls C hsz hW hm hS hl
  refine lv_goto C.1 C.2.1 hd ht ?_
  exact k p e s m args below meth c H locs ls C hsz hW hm hS hl
theorem v_icmp_eq {x y : Int} {off : Int} (tgt : Nat) (hd : decode q.2.1 pc = .ok (.if_icmp .eq off, 3)) (ht : (pc : Int) + off = (tgt : Int)) (hx : rng x) (hy : rng y) (k : x = y → wV G q mc ms sz M0 kc ks tgt lv st M Post) (k2 : x ≠ y → wV G q mc ms sz M0 kc ks (pc + 3) lv st M Post) : wV G q mc ms sz M0 kc ks pc lv (.int (gI y) :: .int (gI x) :: st) M Post := by
  intro p e s m args below meth c H locs ls C hsz hW hm hS hl
  have ilt : ∀ {a b : Int}, rng a → rng b → (gI a < gI b ↔ a < b) := gI_lt
  have ile : ∀ {a b : Int}, rng a → rng b → (gI a ≤ gI b ↔ a ≤ b) := gI_le
  refine lv_icmp_eq C.1 C.2.1 hd ht (fun h => k ?_ p e s m args below meth c H locs ls C hsz hW hm hS hl) (fun h => k2 ?_ p e s m args below meth c H locs ls C hsz hW hm hS hl)
  all_goals (first | (simp only [gI_inj hx hy, gI_inj hy hx, gI_lt hx hy, gI_lt hy hx, gI_le hx hy, gI_le hy hx, ne_eq, ge_iff_le, gt_iff_lt] at h ⊢; first | exact h | omega) )
theorem v_if_eq {x : Int} {off : Int} (tgt : Nat) (hd : decode q.2.1 pc = .ok (.ifCond .eq off, 3)) (ht : (pc : Int) + off = (tgt : Int)) (hx : rng x) (k : x = 0 → wV G q mc ms sz M0 kc ks tgt lv st M Post) (k2 : x ≠ 0 → wV G q mc ms sz M0 kc ks (pc + 3) lv st M Post) : wV G q mc ms sz M0 kc ks pc lv (.int (gI x) :: st) M Post := by
  intro p e s m args below meth c H locs ls C hsz hW hm hS hl
  have hy : rng 0 := ⟨by omega, by omega⟩
  have h0 : (0 : Int32) = gI 0 := rfl
  refine lv_if_eq C.1 C.2.1 hd ht (fun h => k ?_ p e s m args below meth c H locs ls C hsz hW hm hS hl) (fun h => k2 ?_ p e s m args below meth c H locs ls C hsz hW hm hS hl)
  all_goals (rw [h0] at h; first | (simp only [gI_inj hx hy, gI_inj hy hx, gI_lt hx hy, gI_lt hy hx, gI_le hx hy, gI_le hy hx, ne_eq, ge_iff_le, gt_iff_lt] at h ⊢; first | exact h | omega) )
theorem v_icmp_ne {x y : Int} {off : Int} (tgt : Nat) (hd : decode q.2.1 pc = .ok (.if_icmp .ne off, 3)) (ht : (pc : Int) + off = (tgt : Int)) (hx : rng x) (hy : rng y) (k : x ≠ y → wV G q mc ms sz M0 kc ks tgt lv st M Post) (k2 : x = y → wV G q mc ms sz M0 kc ks (pc + 3) lv st M Post) : wV G q mc ms sz M0 kc ks pc lv (.int (gI y) :: .int (gI x) :: st) M Post := by
  intro p e s m args below meth c H locs ls C hsz hW hm hS hl
  have ilt : ∀ {a b : Int}, rng a → rng b → (gI a < gI b ↔ a < b) := gI_lt
  have ile : ∀ {a b : Int}, rng a → rng b → (gI a ≤ gI b ↔ a ≤ b) := gI_le
  refine lv_icmp_ne C.1 C.2.1 hd ht (fun h => k ?_ p e s m args below meth c H locs ls C hsz hW hm hS hl) (fun h => k2 ?_ p e s m args below meth c H locs ls C hsz hW hm hS hl)
  all_goals (first | (simp only [gI_inj hx hy, gI_inj hy hx, gI_lt hx hy, gI_lt hy hx, gI_le hx hy, gI_le hy hx, ne_eq, ge_iff_le, gt_iff_lt] at h ⊢; first | exact h | omega) )
theorem v_if_ne {x : Int} {off : Int} (tgt : Nat) (hd : decode q.2.1 pc = .ok (.ifCond .ne off, 3)) (ht : (pc : Int) + off = (tgt : Int)) (hx : rng x) (k : x ≠ 0 → wV G q mc ms sz M0 kc ks tgt lv st M Post) (k2 : x = 0 → wV G q mc ms sz M0 kc ks (pc + 3) lv st M Post) : wV G q mc ms sz M0 kc ks pc lv (.int (gI x) :: st) M Post := by
  intro p e s m args below meth c H locs ls C hsz hW hm hS hl
  have hy : rng 0 := ⟨by omega, by omega⟩
  have h0 : (0 : Int32) = gI 0 := rfl
  refine lv_if_ne C.1 C.2.1 hd ht (fun h => k ?_ p e s m args below meth c H locs ls C hsz hW hm hS hl) (fun h => k2 ?_ p e s m args below meth c H locs ls C hsz hW hm hS hl)
  all_goals (rw [h0] at h; first | (simp only [gI_inj hx hy, gI_inj hy hx, gI_lt hx hy, gI_lt hy hx, gI_le hx hy, gI_le hy hx, ne_eq, ge_iff_le, gt_iff_lt] at h ⊢; first | exact h | omega) )
theorem v_icmp_lt {x y : Int} {off : Int} (tgt : Nat) (hd : decode q.2.1 pc = .ok (.if_icmp .lt off, 3)) (ht : (pc : Int) + off = (tgt : Int)) (hx : rng x) (hy : rng y) (k : x < y → wV G q mc ms sz M0 kc ks tgt lv st M Post) (k2 : y ≤ x → wV G q mc ms sz M0 kc ks (pc + 3) lv st M Post) : wV G q mc ms sz M0 kc ks pc lv (.int (gI y) :: .int (gI x) :: st) M Post := by
  intro p e s m args below meth c H locs ls C hsz hW hm hS hl
  have ilt : ∀ {a b : Int}, rng a → rng b → (gI a < gI b ↔ a < b) := gI_lt
  have ile : ∀ {a b : Int}, rng a → rng b → (gI a ≤ gI b ↔ a ≤ b) := gI_le
  refine lv_icmp_lt C.1 C.2.1 hd ht (fun h => k ?_ p e s m args below meth c H locs ls C hsz hW hm hS hl) (fun h => k2 ?_ p e s m args below meth c H locs ls C hsz hW hm hS hl)
  all_goals (first | (simp only [gI_inj hx hy, gI_inj hy hx, gI_lt hx hy, gI_lt hy hx, gI_le hx hy, gI_le hy hx, ne_eq, ge_iff_le, gt_iff_lt] at h ⊢; first | exact h | omega) )
theorem v_if_lt {x : Int} {off : Int} (tgt : Nat) (hd : decode q.2.1 pc = .ok (.ifCond .lt off, 3)) (ht : (pc : Int) + off = (tgt : Int)) (hx : rng x) (k : x < 0 → wV G q mc ms sz M0 kc ks tgt lv st M Post) (k2 : 0 ≤ x → wV G q mc ms sz M0 kc ks (pc + 3) lv st M Post) : wV G q mc ms sz M0 kc ks pc lv (.int (gI x) :: st) M Post := by
  intro p e s m args below meth c H locs ls C hsz hW hm hS hl
  have hy : rng 0 := ⟨by omega, by omega⟩
  have h0 : (0 : Int32) = gI 0 := rfl
  refine lv_if_lt C.1 C.2.1 hd ht (fun h => k ?_ p e s m args below meth c H locs ls C hsz hW hm hS hl) (fun h => k2 ?_ p e s m args below meth c H locs ls C hsz hW hm hS hl)
  all_goals (rw [h0] at h; first | (simp only [gI_inj hx hy, gI_inj hy hx, gI_lt hx hy, gI_lt hy hx, gI_le hx hy, gI_le hy hx, ne_eq, ge_iff_le, gt_iff_lt] at h ⊢; first | exact h | omega) )
theorem v_icmp_ge {x y : Int} {off : Int} (tgt : Nat) (hd : decode q.2.1 pc = .ok (.if_icmp .ge off, 3)) (ht : (pc : Int) + off = (tgt : Int)) (hx : rng x) (hy : rng y) (k : y ≤ x → wV G q mc ms sz M0 kc ks tgt lv st M Post) (k2 : x < y → wV G q mc ms sz M0 kc ks (pc + 3) lv st M Post) : wV G q mc ms sz M0 kc ks pc lv (.int (gI y) :: .int (gI x) :: st) M Post := by
  intro p e s m args below meth c H locs ls C hsz hW hm hS hl
  have ilt : ∀ {a b : Int}, rng a → rng b → (gI a < gI b ↔ a < b) := gI_lt
  have ile : ∀ {a b : Int}, rng a → rng b → (gI a ≤ gI b ↔ a ≤ b) := gI_le
  refine lv_icmp_ge C.1 C.2.1 hd ht (fun h => k ?_ p e s m args below meth c H locs ls C hsz hW hm hS hl) (fun h => k2 ?_ p e s m args below meth c H locs ls C hsz hW hm hS hl)
  all_goals (first | (simp only [gI_inj hx hy, gI_inj hy hx, gI_lt hx hy, gI_lt hy hx, gI_le hx hy, gI_le hy hx, ne_eq, ge_iff_le, gt_iff_lt] at h ⊢; first | exact h | omega) )
theorem v_if_ge {x : Int} {off : Int} (tgt : Nat) (hd : decode q.2.1 pc = .ok (.ifCond .ge off, 3)) (ht : (pc : Int) + off = (tgt : Int)) (hx : rng x) (k : 0 ≤ x → wV G q mc ms sz M0 kc ks tgt lv st M Post) (k2 : x < 0 → wV G q mc ms sz M0 kc ks (pc + 3) lv st M Post) : wV G q mc ms sz M0 kc ks pc lv (.int (gI x) :: st) M Post := by
  intro p e s m args below meth c H locs ls C hsz hW hm hS hl
  have hy : rng 0 := ⟨by omega, by omega⟩
  have h0 : (0 : Int32) = gI 0 := rfl
  refine lv_if_ge C.1 C.2.1 hd ht (fun h => k ?_ p e s m args below meth c H locs ls C hsz hW hm hS hl) (fun h => k2 ?_ p e s m args below meth c H locs ls C hsz hW hm hS hl)
  all_goals (rw [h0] at h; first | (simp only [gI_inj hx hy, gI_inj hy hx, gI_lt hx hy, gI_lt hy hx, gI_le hx hy, gI_le hy hx, ne_eq, ge_iff_le, gt_iff_lt] at h ⊢; first | exact h | omega) )
theorem v_icmp_gt {x y : Int} {off : Int} (tgt : Nat) (hd : decode q.2.1 pc = .ok (.if_icmp .gt off, 3)) (ht : (pc : Int) + off = (tgt : Int)) (hx : rng x) (hy : rng y) (k : y < x → wV G q mc ms sz M0 kc ks tgt lv st M Post) (k2 : x ≤ y → wV G q mc ms sz M0 kc ks (pc + 3) lv st M Post) : wV G q mc ms sz M0 kc ks pc lv (.int (gI y) :: .int (gI x) :: st) M Post := by
  intro p e s m args below meth c H locs ls C hsz hW hm hS hl
  have ilt : ∀ {a b : Int}, rng a → rng b → (gI a < gI b ↔ a < b) := gI_lt
  have ile : ∀ {a b : Int}, rng a → rng b → (gI a ≤ gI b ↔ a ≤ b) := gI_le
  refine lv_icmp_gt C.1 C.2.1 hd ht (fun h => k ?_ p e s m args below meth c H locs ls C hsz hW hm hS hl) (fun h => k2 ?_ p e s m args below meth c H locs ls C hsz hW hm hS hl)
  all_goals (first | (simp only [gI_inj hx hy, gI_inj hy hx, gI_lt hx hy, gI_lt hy hx, gI_le hx hy, gI_le hy hx, ne_eq, ge_iff_le, gt_iff_lt] at h ⊢; first | exact h | omega) )
theorem v_if_gt {x : Int} {off : Int} (tgt : Nat) (hd : decode q.2.1 pc = .ok (.ifCond .gt off, 3)) (ht : (pc : Int) + off = (tgt : Int)) (hx : rng x) (k : 0 < x → wV G q mc ms sz M0 kc ks tgt lv st M Post) (k2 : x ≤ 0 → wV G q mc ms sz M0 kc ks (pc + 3) lv st M Post) : wV G q mc ms sz M0 kc ks pc lv (.int (gI x) :: st) M Post := by
  intro p e s m args below meth c H locs ls C hsz hW hm hS hl
  have hy : rng 0 := ⟨by omega, by omega⟩
  have h0 : (0 : Int32) = gI 0 := rfl
  refine lv_if_gt C.1 C.2.1 hd ht (fun h => k ?_ p e s m args below meth c H locs ls C hsz hW hm hS hl) (fun h => k2 ?_ p e s m args below meth c H locs ls C hsz hW hm hS hl)
  all_goals (rw [h0] at h; first | (simp only [gI_inj hx hy, gI_inj hy hx, gI_lt hx hy, gI_lt hy hx, gI_le hx hy, gI_le hy hx, ne_eq, ge_iff_le, gt_iff_lt] at h ⊢; first | exact h | omega) )
theorem v_icmp_le {x y : Int} {off : Int} (tgt : Nat) (hd : decode q.2.1 pc = .ok (.if_icmp .le off, 3)) (ht : (pc : Int) + off = (tgt : Int)) (hx : rng x) (hy : rng y) (k : x ≤ y → wV G q mc ms sz M0 kc ks tgt lv st M Post) (k2 : y < x → wV G q mc ms sz M0 kc ks (pc + 3) lv st M Post) : wV G q mc ms sz M0 kc ks pc lv (.int (gI y) :: .int (gI x) :: st) M Post := by
  intro p e s m args below meth c H locs ls C hsz hW hm hS hl
  have ilt : ∀ {a b : Int}, rng a → rng b → (gI a < gI b ↔ a < b) := gI_lt
  have ile : ∀ {a b : Int}, rng a → rng b → (gI a ≤ gI b ↔ a ≤ b) := gI_le
  refine lv_icmp_le C.1 C.2.1 hd ht (fun h => k ?_ p e s m args below meth c H locs ls C hsz hW hm hS hl) (fun h => k2 ?_ p e s m args below meth c H locs ls C hsz hW hm hS hl)
  all_goals (first | (simp only [gI_inj hx hy, gI_inj hy hx, gI_lt hx hy, gI_lt hy hx, gI_le hx hy, gI_le hy hx, ne_eq, ge_iff_le, gt_iff_lt] at h ⊢; first | exact h | omega) )
theorem v_if_le {x : Int} {off : Int} (tgt : Nat) (hd : decode q.2.1 pc = .ok (.ifCond .le off, 3)) (ht : (pc : Int) + off = (tgt : Int)) (hx : rng x) (k : x ≤ 0 → wV G q mc ms sz M0 kc ks tgt lv st M Post) (k2 : 0 < x → wV G q mc ms sz M0 kc ks (pc + 3) lv st M Post) : wV G q mc ms sz M0 kc ks pc lv (.int (gI x) :: st) M Post := by
  intro p e s m args below meth c H locs ls C hsz hW hm hS hl
  have hy : rng 0 := ⟨by omega, by omega⟩
  have h0 : (0 : Int32) = gI 0 := rfl
  refine lv_if_le C.1 C.2.1 hd ht (fun h => k ?_ p e s m args below meth c H locs ls C hsz hW hm hS hl) (fun h => k2 ?_ p e s m args below meth c H locs ls C hsz hW hm hS hl)
  all_goals (rw [h0] at h; first | (simp only [gI_inj hx hy, gI_inj hy hx, gI_lt hx hy, gI_lt hy hx, gI_le hx hy, gI_le hy hx, ne_eq, ge_iff_le, gt_iff_lt] at h ⊢; first | exact h | omega) )
theorem v_ldc {idx : Nat} {n : Int} (hd : decode q.2.1 pc = .ok (.ldc idx, 2)) (hw : Cond.constant q.1.cls idx (gI n) ∈ lw_good) (k : wV G q mc ms sz M0 kc ks (pc + 2) lv (.int (gI n) :: st) M Post) : wV G q mc ms sz M0 kc ks pc lv st M Post := by
  intro p e s m args below meth c H locs ls C hsz hW hm hS hl
  refine lv_ldc C.1 C.2.1 C.2.2.2.2.1 (C.2.2.2.2.2.1 _ (List.mem_cons_of_mem _ hw)) hd ?_
  exact k p e s m args below meth c H locs ls C hsz hW hm hS hl
theorem v_ldc2 {idx : Nat} {n : Int64} (hd : decode q.2.1 pc = .ok (.ldc2_w idx, 3)) (hw : Cond.constantLong q.1.cls idx n ∈ lw_good) (k : wV G q mc ms sz M0 kc ks (pc + 3) lv (.long n :: st) M Post) : wV G q mc ms sz M0 kc ks pc lv st M Post := by
  intro p e s m args below meth c H locs ls C hsz hW hm hS hl
  refine lv_ldc2 C.1 C.2.1 C.2.2.2.2.1 (C.2.2.2.2.2.1 _ (List.mem_cons_of_mem _ hw)) hd ?_
  exact k p e s m args below meth c H locs ls C hsz hW hm hS hl
end WRULES
end
section
section WHEAP
variable {G : gG} {q : mD} {mc ms sz kc ks pc : Nat} {M0 M : wM} {lv : List (Nat × Value)} {st rest : List Value} {Post : Option Value → wM → Prop}
/-- a field: the link of the class 'own', the class's number, the field's slot -/
def lkF (own : String) (idx ci k : Nat) : Prop := ∃ (C : String) (T : u_T) (N : Nat), vwCl[ci]? = some (C, T, N) ∧ k < N ∧ (∀ w ∈ u_ws C T N, w ∈ lw_good) ∧ Cond.fieldLink own idx (T k).1 (T k).2.1 (T k).2.2.1 ∈ lw_good
def lkN (own : String) (idx ci k : Nat) : Prop := ∃ (C : String) (T : u_T) (N : Nat) (host : String), vwCl[ci]? = some (C, T, N) ∧ k < N ∧ (∀ w ∈ u_ws C T N, w ∈ lw_good) ∧ Cond.fieldLinkNest own idx (T k).1 (T k).2.1 (T k).2.2.1 host ∈ lw_nest
/-- a field that may be written -/
def lkP (own : String) (idx ci k : Nat) (ty : FieldType) : Prop := ∃ (C : String) (T : u_T) (N : Nat) (ty0 : Nat → FieldType), vwCl[ci]? = some (C, T, N) ∧ k < N ∧ (∀ w ∈ u_ws C T N, w ∈ lw_good) ∧ Cond.fieldLink own idx (T k).1 (T k).2.1 (T k).2.2.1 ∈ lw_good ∧ (T k).2.2.2 = false ∧ (∀ k, k < N → parseFieldDescriptor (T k).2.2.1 = some (ty0 k)) ∧ (∀ a, a < N → ∀ b, b < N → a ≠ b → (T a).2.1 ≠ (T b).2.1) ∧ ty0 k = ty
def lkPF (own : String) (idx ci k : Nat) (ty : FieldType) : Prop := ∃ (C : String) (T : u_T) (N : Nat) (ty0 : Nat → FieldType), vwCl[ci]? = some (C, T, N) ∧ k < N ∧ (∀ w ∈ u_ws C T N, w ∈ lw_good) ∧ Cond.fieldLink own idx (T k).1 (T k).2.1 (T k).2.2.1 ∈ lw_good ∧ (T k).2.2.2 = true ∧ (T k).1 = own ∧ (∀ k, k < N → parseFieldDescriptor (T k).2.2.1 = some (ty0 k)) ∧ (∀ a, a < N → ∀ b, b < N → a ≠ b → (T a).2.1 ≠ (T b).2.1) ∧ ty0 k = ty
theorem v_get {idx ci k a : Nat} {fs : List Value} {v : Value} (hd : decode q.2.1 pc = .ok (.getfield idx, 3)) (hf : lkF q.1.cls idx ci k) (hM : M a = some (.inr (ci, fs))) (hv : fs[k]? = some v)
    (kk : wV G q mc ms sz M0 kc ks (pc + 3) lv (v :: st) M Post) : wV G q mc ms sz M0 kc ks pc lv (.ref a :: st) M Post := by
  intro p e s m args below meth c H locs ls C hsz hW hm hS hl
  obtain ⟨Cn, T, N, hc, hk, hin, hlk⟩ := hf
  obtain ⟨ws, hP, hD, hR⟩ := id hW
  obtain ⟨q0, he⟩ := List.getElem?_of_mem ((hR _ _).mp hM)
  exact va_get (own := q.1.cls) (T := T) C.1 C.2.1 C.2.2.2.2.2.1 (fun w h => List.mem_cons_of_mem _ (hin w h)) C.2.2.2.2.1 C.2.2.2.2.2.2.1.1 hP q0 he hc k hk (C.2.2.2.2.2.1 _ (List.mem_cons_of_mem _ hlk)) (fun _ h => h) hv hd (kk p e s m args below meth c H locs ls C hsz hW hm hS hl)
theorem v_getN {idx ci k a : Nat} {fs : List Value} {v : Value} (hd : decode q.2.1 pc = .ok (.getfield idx, 3)) (hf : lkN q.1.cls idx ci k) (hM : M a = some (.inr (ci, fs))) (hv : fs[k]? = some v)
    (kk : wV G q mc ms sz M0 kc ks (pc + 3) lv (v :: st) M Post) : wV G q mc ms sz M0 kc ks pc lv (.ref a :: st) M Post := by
  intro p e s m args below meth c H locs ls C hsz hW hm hS hl
  obtain ⟨Cn, T, N, host, hc, hk, hin, hlk⟩ := hf
  obtain ⟨ws, hP, hD, hR⟩ := id hW
  obtain ⟨q0, he⟩ := List.getElem?_of_mem ((hR _ _).mp hM)
  exact va_getN (own := q.1.cls) (T := T) C.1 C.2.1 C.2.2.2.2.2.1 (fun w h => List.mem_cons_of_mem _ (hin w h)) C.2.2.2.2.1 C.2.2.2.2.2.2.1.1 hP q0 he hc k hk (va_Nw.use rfl (C.2.2.2.2.2.2.1.2 _ hlk)) (fun _ h => h) hv hd (kk p e s m args below meth c H locs ls C hsz hW hm hS hl)
theorem wup_dom {a : Nat} {e1 : va_E} (hm : ∀ a, M0 a ≠ none → M a ≠ none) : ∀ b, M0 b ≠ none → wup M a e1 b ≠ none := by
  intro b hb
  unfold wup
  split
  · exact fun h => by cases h
  · exact hm b hb
theorem v_put {idx ci k a : Nat} {ty : FieldType} {fs : List Value} {v : Value} (hd : decode q.2.1 pc = .ok (.putfield idx, 3)) (hf : lkP q.1.cls idx ci k ty) (hM : M a = some (.inr (ci, fs))) (hn : narrow ty v = v) (hfit : fits ty v = true) (hlen : k < fs.length)
    (kk : wV G q mc ms sz M0 kc ks (pc + 3) lv st (wup M a (.inr (ci, fs.set k v))) Post) : wV G q mc ms sz M0 kc ks pc lv (v :: .ref a :: st) M Post := by
  intro p e s m args below meth c H locs ls C hsz hW hm hS hl
  obtain ⟨Cn, T, N, ty0, hc, hk, hin, hlk, hfin, hty, hnm, rfl⟩ := hf
  obtain ⟨ws, hP, hD, hR⟩ := id hW
  obtain ⟨q0, he⟩ := List.getElem?_of_mem ((hR _ _).mp hM)
  exact va_put (own := q.1.cls) (T := T) C.1 C.2.1 C.2.2.2.2.2.1 (fun w h => List.mem_cons_of_mem _ (hin w h)) ty0 hty hnm C.2.2.2.2.1 C.2.2.2.2.2.2.1.1 hP hD hS q0 he hc k hk (C.2.2.2.2.2.1 _ (List.mem_cons_of_mem _ hlk)) (fun _ h => h) hfin (hty k hk) hn hfit hlen hd (fun H1 locs1 hP1 hD1 hS1 => kk p e s m args below meth c H1 locs1 ls C hsz ⟨_, hP1, hD1, hR.set hD he⟩ (wup_dom hm) hS1 hl)
theorem v_putF {idx ci k a : Nat} {ty : FieldType} {fs : List Value} {v : Value} (hd : decode q.2.1 pc = .ok (.putfield idx, 3)) (hf : lkPF q.1.cls idx ci k ty) (hin2 : q.1.name = "<init>") (hM : M a = some (.inr (ci, fs))) (hn : narrow ty v = v) (hfit : fits ty v = true) (hlen : k < fs.length)
    (kk : wV G q mc ms sz M0 kc ks (pc + 3) lv st (wup M a (.inr (ci, fs.set k v))) Post) : wV G q mc ms sz M0 kc ks pc lv (v :: .ref a :: st) M Post := by
  intro p e s m args below meth c H locs ls C hsz hW hm hS hl
  obtain ⟨Cn, T, N, ty0, hc, hk, hin, hlk, hfin, hdc, hty, hnm, rfl⟩ := hf
  obtain ⟨ws, hP, hD, hR⟩ := id hW
  obtain ⟨q0, he⟩ := List.getElem?_of_mem ((hR _ _).mp hM)
  exact va_putF (own := q.1.cls) (T := T) C.1 C.2.1 C.2.2.2.2.2.1 (fun w h => List.mem_cons_of_mem _ (hin w h)) ty0 hty hnm C.2.2.2.2.1 C.2.2.2.2.2.2.1.1 hP hD hS q0 he hc k hk (C.2.2.2.2.2.1 _ (List.mem_cons_of_mem _ hlk)) (fun _ h => h) hfin (C.2.2.2.2.2.2.2.2.trans hin2) hdc (hty k hk) hn hfit hlen hd (fun H1 locs1 hP1 hD1 hS1 => kk p e s m args below meth c H1 locs1 ls C hsz ⟨_, hP1, hD1, hR.set hD he⟩ (wup_dom hm) hS1 hl)
theorem v_iald {a n : Nat} {f : Nat → Int} {i : Int} (hd : decode q.2.1 pc = .ok (.iaload, 1)) (hM : M a = some (.inl (G.2.2 0, n, .inl (gF f)))) (h0 : 0 ≤ i) (h1 : i < n) (hb : n ≤ 2147483647)
    (kk : wV G q mc ms sz M0 kc ks (pc + 1) lv (.int (gI (f i.toNat)) :: st) M Post) : wV G q mc ms sz M0 kc ks pc lv (.int (gI i) :: .ref a :: st) M Post := by
  intro p e s m args below meth c H locs ls C hsz hW hm hS hl
  obtain ⟨ws, hP, hD, hR⟩ := id hW
  obtain ⟨q0, he⟩ := List.getElem?_of_mem ((hR _ _).mp hM)
  refine va_iald C.1 C.2.1 C.2.2.2.2.2.2.1.1 hP q0 0 he rfl (gI_in h0 h1 hb) hd ?_
  rw [gI_clamp h0 (by omega)]
  exact kk p e s m args below meth c H locs ls C hsz hW hm hS hl
theorem v_zald {a n : Nat} {f : Nat → Int} {i : Int} (hd : decode q.2.1 pc = .ok (.baload, 1)) (hM : M a = some (.inl (G.2.2 1, n, .inl (gF f)))) (h0 : 0 ≤ i) (h1 : i < n) (hb : n ≤ 2147483647)
    (kk : wV G q mc ms sz M0 kc ks (pc + 1) lv (.int (gI (f i.toNat)) :: st) M Post) : wV G q mc ms sz M0 kc ks pc lv (.int (gI i) :: .ref a :: st) M Post := by
  intro p e s m args below meth c H locs ls C hsz hW hm hS hl
  obtain ⟨ws, hP, hD, hR⟩ := id hW
  obtain ⟨q0, he⟩ := List.getElem?_of_mem ((hR _ _).mp hM)
  refine va_zald C.1 C.2.1 C.2.2.2.2.2.2.1.1 hP q0 1 he rfl (gI_in h0 h1 hb) hd ?_
  rw [gI_clamp h0 (by omega)]
  exact kk p e s m args below meth c H locs ls C hsz hW hm hS hl
theorem v_aald {a n t0 : Nat} {cA : ClassId} {Cn : String} {f : Nat → Nat} {i : Int} (hd : decode q.2.1 pc = .ok (.aaload, 1)) (hM : M a = some (.inl (G.2.2 t0, n, .inr (.inr (.inr (.inr (fun j => some (f j)))))))) (ht : t0 = 2 ∧ Cn = "WavePairs$Row" ∨ t0 = 3 ∧ Cn = "WavePairs$Mask" ∨ t0 = 4 ∧ Cn = "WavePairs$Channel" ∨ t0 = 5 ∧ Cn = "WavePairs$Gate" ∨ t0 = 6 ∧ Cn = "WavePairs$Pair") (h0 : 0 ≤ i) (h1 : i < n) (hb : n ≤ 2147483647)
    (kk : wV G q mc ms sz M0 kc ks (pc + 1) lv (.ref (f i.toNat) :: st) M Post) : wV G q mc ms sz M0 kc ks pc lv (.int (gI i) :: .ref a :: st) M Post := by
  intro p e s m args below meth c H locs ls C hsz hW hm hS hl
  obtain ⟨ws, hP, hD, hR⟩ := id hW
  obtain ⟨q0, he⟩ := List.getElem?_of_mem ((hR _ _).mp hM)
  refine va_aldq (C := Cn) C.1 C.2.1 C.2.2.2.2.2.2.1.1 hP q0 t0 he ?_ (gI_in h0 h1 hb) hd ?_
  · rcases ht with ⟨rfl, rfl⟩ | ⟨rfl, rfl⟩ | ⟨rfl, rfl⟩ | ⟨rfl, rfl⟩ | ⟨rfl, rfl⟩ <;> rfl
  · rw [gI_clamp h0 (by omega)]
    exact kk p e s m args below meth c H locs ls C hsz hW hm hS hl
theorem v_iast {a n : Nat} {f : Nat → Int} {i x : Int} (hd : decode q.2.1 pc = .ok (.iastore, 1)) (hM : M a = some (.inl (G.2.2 0, n, .inl (gF f)))) (h0 : 0 ≤ i) (h1 : i < n) (hb : n ≤ 2147483647)
    (kk : wV G q mc ms sz M0 kc ks (pc + 1) lv st (wup M a (.inl (G.2.2 0, n, .inl (gF (upz f i.toNat x))))) Post) : wV G q mc ms sz M0 kc ks pc lv (.int (gI x) :: .int (gI i) :: .ref a :: st) M Post := by
  intro p e s m args below meth c H locs ls C hsz hW hm hS hl
  obtain ⟨ws, hP, hD, hR⟩ := id hW
  obtain ⟨q0, he⟩ := List.getElem?_of_mem ((hR _ _).mp hM)
  refine va_iast C.1 C.2.1 C.2.2.2.2.2.2.1.1 hP hD hS q0 0 he rfl (gI_in h0 h1 hb) hd (fun H1 locs1 hP1 hD1 hS1 => ?_)
  rw [gI_clamp h0 (by omega), gF_upd] at hP1 hD1
  exact kk p e s m args below meth c H1 locs1 ls C hsz ⟨_, hP1, hD1, hR.set hD he⟩ (wup_dom hm) hS1 hl
theorem v_zast {a n : Nat} {f : Nat → Int} {i x : Int} (hd : decode q.2.1 pc = .ok (.bastore, 1)) (hM : M a = some (.inl (G.2.2 1, n, .inl (gF f)))) (h0 : 0 ≤ i) (h1 : i < n) (hb : n ≤ 2147483647) (hx : x = 0 ∨ x = 1)
    (kk : wV G q mc ms sz M0 kc ks (pc + 1) lv st (wup M a (.inl (G.2.2 1, n, .inl (gF (upz f i.toNat x))))) Post) : wV G q mc ms sz M0 kc ks pc lv (.int (gI x) :: .int (gI i) :: .ref a :: st) M Post := by
  intro p e s m args below meth c H locs ls C hsz hW hm hS hl
  obtain ⟨ws, hP, hD, hR⟩ := id hW
  obtain ⟨q0, he⟩ := List.getElem?_of_mem ((hR _ _).mp hM)
  refine va_zast C.1 C.2.1 C.2.2.2.2.2.2.1.1 hP hD hS q0 1 he rfl (gI_in h0 h1 hb) hd (fun H1 locs1 hP1 hD1 hS1 => ?_)
  rw [gI_clamp h0 (by omega), show vp_nar .boolean (gI x) = gI x from by rcases hx with rfl | rfl <;> decide, gF_upd] at hP1 hD1
  exact kk p e s m args below meth c H1 locs1 ls C hsz ⟨_, hP1, hD1, hR.set hD he⟩ (wup_dom hm) hS1 hl
theorem v_alen {a n t0 : Nat} {x : vp_A} {ty : FieldType} (hd : decode q.2.1 pc = .ok (.arraylength, 1)) (hM : M a = some (.inl (G.2.2 t0, x))) (ht : t0 = 0 ∨ t0 = 1 ∨ t0 = 2 ∨ t0 = 3 ∨ t0 = 4 ∨ t0 = 5 ∨ t0 = 6) (hn : x.1 = n)
    (kk : wV G q mc ms sz M0 kc ks (pc + 1) lv (.int (gI n) :: st) M Post) : wV G q mc ms sz M0 kc ks pc lv (.ref a :: st) M Post := by
  intro p e s m args below meth c H locs ls C hsz hW hm hS hl
  obtain ⟨ws, hP, hD, hR⟩ := id hW
  obtain ⟨q0, he⟩ := List.getElem?_of_mem ((hR _ _).mp hM)
  have hv : Int32.ofNat x.1 = gI n := by rw [hn]; rfl
  have kk' := kk p e s m args below meth c H locs ls C hsz hW hm hS hl
  rcases ht with rfl | rfl | rfl | rfl | rfl | rfl | rfl
  · exact va_alen C.1 C.2.1 C.2.2.2.2.2.2.1.1 hP q0 0 he rfl hv hd kk'
  · exact va_alen C.1 C.2.1 C.2.2.2.2.2.2.1.1 hP q0 1 he rfl hv hd kk'
  · exact va_alen C.1 C.2.1 C.2.2.2.2.2.2.1.1 hP q0 2 he rfl hv hd kk'
  · exact va_alen C.1 C.2.1 C.2.2.2.2.2.2.1.1 hP q0 3 he rfl hv hd kk'
  · exact va_alen C.1 C.2.1 C.2.2.2.2.2.2.1.1 hP q0 4 he rfl hv hd kk'
  · exact va_alen C.1 C.2.1 C.2.2.2.2.2.2.1.1 hP q0 5 he rfl hv hd kk'
  · exact va_alen C.1 C.2.1 C.2.2.2.2.2.2.1.1 hP q0 6 he rfl hv hd kk'
end WHEAP
end
section
section WCALLS
variable {G : gG} {q q2 : mD} {mc ms sz kc ks pc mc2 ms2 : Nat} {M0 M : wM} {lv : List (Nat × Value)} {st rest : List Value} {Post Post2 : Option Value → wM → Prop}
def iP (f : Int → wM → Prop) : Option Value → wM → Prop := fun v M => ∃ r : Int, v = some (.int (gI r)) ∧ rng r ∧ f r M
def vP (f : wM → Prop) : Option Value → wM → Prop := fun v M => v = none ∧ f M
def rP (f : Nat → wM → Prop) : Option Value → wM → Prop := fun v M => ∃ a : Nat, v = some (.ref a) ∧ f a M
theorem v_iret {f : Int → wM → Prop} {x : Int} (hd : decode q.2.1 pc = .ok (.ireturn, 1)) (hr : q.2.2.2.1 = some .int) (hk : kc ≤ mc ∧ ks ≤ ms) (hx : rng x) (h : f x M) : wV G q mc ms sz M0 kc ks pc lv [.int (gI x)] M (iP f) := by
  intro p e s m args below meth c H locs ls C hsz hW hm hS hl
  have hlocks := C.2.2.2.2.2.2.2.1
  refine W.widen hk.1 hk.2 ?_
  exact W.iret C.1 C.2.1 (C.2.2.2.1.trans hr) (fun t ht hW2 => ⟨⟨_, M, rfl, ⟨x, rfl, hx, h⟩, by rw [ht]; exact hW, hm⟩, by subst hsz; exact hS.F ht⟩) hS.2.2 hd
theorem v_zret {f : Int → wM → Prop} {x : Int} (hd : decode q.2.1 pc = .ok (.ireturn, 1)) (hr : q.2.2.2.1 = some .boolean) (hk : kc ≤ mc ∧ ks ≤ ms) (hx : x = 0 ∨ x = 1) (h : f x M) : wV G q mc ms sz M0 kc ks pc lv [.int (gI x)] M (iP f) := by
  intro p e s m args below meth c H locs ls C hsz hW hm hS hl
  have hlocks := C.2.2.2.2.2.2.2.1
  refine W.widen hk.1 hk.2 ?_
  exact W.zret C.1 C.2.1 (C.2.2.2.1.trans hr) (by rcases hx with rfl | rfl <;> decide) (fun t ht hW2 => ⟨⟨_, M, rfl, ⟨x, rfl, by rcases hx with rfl | rfl <;> exact ⟨by omega, by omega⟩, h⟩, by rw [ht]; exact hW, hm⟩, by subst hsz; exact hS.F ht⟩) hS.2.2 hd
theorem v_vret {f : wM → Prop} (hd : decode q.2.1 pc = .ok (.return_, 1)) (hr : q.2.2.2.1 = none) (hk : kc ≤ mc ∧ ks ≤ ms) (h : f M) : wV G q mc ms sz M0 kc ks pc lv [] M (vP f) := by
  intro p e s m args below meth c H locs ls C hsz hW hm hS hl
  have hlocks := C.2.2.2.2.2.2.2.1
  refine W.widen hk.1 hk.2 ?_
  exact W.vret C.1 C.2.1 (C.2.2.2.1.trans hr) (fun t ht hW2 => ⟨⟨_, M, rfl, ⟨rfl, h⟩, by rw [ht]; exact hW, hm⟩, by subst hsz; exact hS.F ht⟩) hS.2.2 hd
theorem v_aret {f : Nat → wM → Prop} {a : Nat} {nm : String} (hd : decode q.2.1 pc = .ok (.areturn, 1)) (hr : q.2.2.2.1 = some (.object nm)) (hk : kc ≤ mc ∧ ks ≤ ms) (h : f a M) : wV G q mc ms sz M0 kc ks pc lv [.ref a] M (rP f) := by
  intro p e s m args below meth c H locs ls C hsz hW hm hS hl
  have hlocks := C.2.2.2.2.2.2.2.1
  refine W.widen hk.1 hk.2 ?_
  exact W.aret C.1 C.2.1 (C.2.2.2.1.trans hr) (Or.inl ⟨_, rfl⟩) (Or.inr ⟨a, rfl⟩) (fun t ht hW2 => ⟨⟨_, M, rfl, ⟨a, rfl, h⟩, by rw [ht]; exact hW, hm⟩, by subst hsz; exact hS.F ht⟩) hS.2.2 hd
/-- behind a call -/
theorem v_behind {p : Program} {e : Env} {s : State} {m : MethodId} {args : Array Value} {below : List Frame} {meth : Method} {c : Code} {H : Heap} {locs : List Loc} {ls : Array Slot} {a : Array Value}
    (C : cX G q p s m args meth c) (hsz : s.heap.size = sz) (hW : wW G.2.1 (wA M0 sz) M H) (hm : ∀ a, M0 a ≠ none → M a ≠ none) (hS : va_S (wA M0 sz) s.heap H locs) (hl : lv_has ls q.2.2.1 lv)
    (hr : va_Run p G.1 e (rm_of q mc ms) s m args below meth c H locs kc ks mc2 ms2 (F0 m pc ls st) rest (wQ G M H.size Post2 a) (wA M H.size))
    (kk : ∀ v M', Post2 v M' → wV G q mc ms sz M0 (kc + mc2) (ks + ms2) (pc + 3) lv (v.toList ++ rest) M' Post) :
    W p G.1 e (rm_of q mc ms) s m args below meth c H locs kc ks (MQ below (wQ G M0 sz Post) args s mc ms (wA M0 sz)) (F0 m pc ls st) := by
  intro T hT X
  obtain ⟨v, st₀, t, T', L, h0, X', hL, e1, e2, ⟨⟨v', M', hv, hp, hW', hm'⟩, hz, hk⟩, stp⟩ := hr T hT X
  cases hv
  rw [h0] at hz hk
  have hsub : ∀ b, wA M H.size b → wA M0 sz b := by
    intro b hb
    rcases hb with hb | hb
    · obtain ⟨ws, hP, hD, hR⟩ := hW
      cases hMb : M b with
      | none => exact absurd hMb hb
      | some eb =>
        obtain ⟨i, hi⟩ := List.getElem?_of_mem ((hR b eb).mp hMb)
        exact hD.2 i _ hi
    · exact Or.inr (by have := hS.1; omega)
  have hkk := kk _ M' hp p e s m args below meth c T'.heap (locs ++ L) ls C hsz (by rw [e1]; exact hW'.weaken (fun b _ hb => hsub b hb)) (fun b hb => hm' b (hm b hb))
    ⟨Nat.le_trans hS.1 (by rw [e1]; exact hz), fun b h1 h2 => by rw [e1, hk b (Nat.lt_of_lt_of_le h1 hS.1) (fun z => h2 (hsub b z))]; exact hS.2.1 b h1 h2, fun x hx => by
      rcases List.mem_append.mp hx with h | h
      · exact hS.2.2 x h
      · exact hsub _ (hL x h)⟩ hl
  obtain ⟨t2, a1, b1⟩ := hkk T' rfl X'
  exact ⟨t2, stp t2 a1, b1⟩
theorem pc_blind {av : List Value} {M : wM} {sz : Nat} : FrameBlind (va_Pc av (fun U => U.heap.size = sz ∧ wW G.2.1 (fun _ => True) M U.heap ∧ wK G U)) := by
  intro a U g mk h
  obtain ⟨h1, h2, h3, h4⟩ := h
  exact ⟨h1, h2, h3, wK.same (s := U) (U := U.calling g mk a) rfl h4⟩
/-- the words of a call -/
def lkV (own : String) (idx : Nat) (q2 : mD) (n : Nat) : Prop := (∀ w ∈ ([.methodLink own idx q2.1, .instanceMethod q2.1, .selects q2.1.cls q2.1 q2.1, .initialized q2.1.cls, .code q2.1 q2.2.1 q2.2.2.1 q2.2.2.2.1] : List Cond), w ∈ lw_good) ∧ q2.1.cls ≠ "java/lang/invoke/MethodHandle" ∧ q2.1.cls ≠ "java/lang/invoke/VarHandle" ∧ (parseMethodDescriptor q2.1.desc).map (fun d => d.parameters.length) = some n
def lkS (own : String) (idx : Nat) (q2 : mD) (n : Nat) : Prop := (∀ w ∈ ([.methodLink own idx q2.1, .static q2.1, .initialized own, .code q2.1 q2.2.1 q2.2.2.1 q2.2.2.2.1] : List Cond), w ∈ lw_good) ∧ q2.1.cls = own ∧ q2.1.cls ≠ "java/lang/invoke/MethodHandle" ∧ q2.1.cls ≠ "java/lang/invoke/VarHandle" ∧ (parseMethodDescriptor q2.1.desc).map (fun d => d.parameters.length) = some n
def lkSN (own : String) (idx : Nat) (q2 : mD) (n : Nat) : Prop := ∃ host, (∀ w ∈ ([.static q2.1, .initialized q2.1.cls, .code q2.1 q2.2.1 q2.2.2.1 q2.2.2.2.1] : List Cond), w ∈ lw_good) ∧ Cond.methodLinkNest own idx q2.1 host ∈ lw_nest ∧ q2.1.cls ≠ "java/lang/invoke/MethodHandle" ∧ q2.1.cls ≠ "java/lang/invoke/VarHandle" ∧ (parseMethodDescriptor q2.1.desc).map (fun d => d.parameters.length) = some n
def lkI (own : String) (idx : Nat) (q2 : mD) (n : Nat) : Prop := (∀ w ∈ ([.methodLink own idx q2.1, .instanceMethod q2.1, .initialized q2.1.cls, .code q2.1 q2.2.1 q2.2.2.1 none] : List Cond), w ∈ lw_good) ∧ q2.1.name = "<init>" ∧ q2.2.2.2.1 = none ∧ q2.1.cls ≠ "java/lang/invoke/MethodHandle" ∧ q2.1.cls ≠ "java/lang/invoke/VarHandle" ∧ (parseMethodDescriptor q2.1.desc).map (fun d => d.parameters.length) = some n
def lkIN (own : String) (idx : Nat) (q2 : mD) (n : Nat) : Prop := ∃ host, (∀ w ∈ ([.instanceMethod q2.1, .initialized q2.1.cls, .code q2.1 q2.2.1 q2.2.2.1 none] : List Cond), w ∈ lw_good) ∧ Cond.methodLinkNest own idx q2.1 host ∈ lw_nest ∧ q2.1.name = "<init>" ∧ q2.2.2.2.1 = none ∧ q2.1.cls ≠ "java/lang/invoke/MethodHandle" ∧ q2.1.cls ≠ "java/lang/invoke/VarHandle" ∧ (parseMethodDescriptor q2.1.desc).map (fun d => d.parameters.length) = some n
def fit2 (q q2 : mD) : Prop := q2.2.2.2.2.1 + 1 ≤ q.2.2.2.2.1 ∧ 8 + (q2.2.2.1 + 11) + q2.2.2.2.2.2 ≤ q.2.2.2.2.2
/-- the receiver is an object of the class -/
def isO (M : wM) (b : Nat) (cls : String) : Prop := ∃ (ci : Nat) (fs : List Value) (T : u_T) (N : Nat), M b = some (.inr (ci, fs)) ∧ vwCl[ci]? = some (cls, T, N)
theorem v_callV {idx n b : Nat} {As : List Value} (hT : wT G q2 mc2 ms2 (.ref b :: As) M Post2) (hlk : lkV q.1.cls idx q2 n) (hfit : fit2 q q2) (hd : decode q.2.1 pc = .ok (.invokevirtual idx, 3)) (hst : st = As.reverse ++ .ref b :: rest) (hn : As.length = n) (hrest : (rest.map fun v => v.category).sum ≤ 8) (hc : kc + mc2 ≤ mc ∧ ks + ms2 ≤ ms) (hO : isO M b q2.1.cls)
    (kk : ∀ v M', Post2 v M' → wV G q mc ms sz M0 (kc + mc2) (ks + ms2) (pc + 3) lv (v.toList ++ rest) M' Post) : wV G q mc ms sz M0 kc ks pc lv st M Post := by
  intro p e s m args below meth c H locs ls C hsz hW hm hS hl
  subst hst
  refine v_behind (a := (Value.ref b :: As).toArray) C hsz hW hm hS hl ?_ kk
  have hts := C.2.2.2.2.2.1
  have ok : ∀ w ∈ lw_good, w.before args s = true := fun w h => hts w (List.mem_cons_of_mem _ h)
  obtain ⟨ws, hP, hD, hR⟩ := id hW
  obtain ⟨ci, fs, T, N, hMb, hcl⟩ := hO
  obtain ⟨q0, he⟩ := List.getElem?_of_mem ((hR _ _).mp hMb)
  have hcw : CallW (rm_of q mc ms) s args q.1.cls q2.1.cls idx q2.1 q2.2.1 q2.2.2.1 q2.2.2.2.1 (ws_of q2) (rm_of q2 mc2 ms2) mc2 ms2 n :=
    ⟨callB_of n hts (goodIn_ws q q2 (hlk.1 _ (by simp))) rfl rfl rfl (ok _ (hlk.1 _ (by simp))) (ok _ (hlk.1 _ (by simp))) hlk.2 hfit, ok _ (hlk.1 _ (by simp)), ok _ (hlk.1 _ (by simp))⟩
  refine va_runV (Ts := ws_of q) ⟨C.1, C.2.1, C.2.2.1, C.2.2.2.2.1, hts⟩ (hT H.size) hcw ⟨pc_blind, va_recv C.2.2.2.2.2.2.1.1 hP hcl he, fun U hU hWm => ⟨rfl, by rw [hU], by rw [hU]; exact hW.weaken (fun _ _ _ => trivial), C.2.2.2.2.2.2.1.warm hWm⟩⟩ rfl hn hl.1 rfl (lv_room hrest) hd hc
theorem v_callS {idx n : Nat} {As : List Value} (hT : wT G q2 mc2 ms2 As M Post2) (hlk : lkS q.1.cls idx q2 n) (hfit : fit2 q q2) (hd : decode q.2.1 pc = .ok (.invokestatic idx, 3)) (hst : st = As.reverse ++ rest) (hn : As.length = n) (hrest : (rest.map fun v => v.category).sum ≤ 8) (hc : kc + mc2 ≤ mc ∧ ks + ms2 ≤ ms)
    (kk : ∀ v M', Post2 v M' → wV G q mc ms sz M0 (kc + mc2) (ks + ms2) (pc + 3) lv (v.toList ++ rest) M' Post) : wV G q mc ms sz M0 kc ks pc lv st M Post := by
  intro p e s m args below meth c H locs ls C hsz hW hm hS hl
  subst hst
  refine v_behind (a := As.toArray) C hsz hW hm hS hl ?_ kk
  have hts := C.2.2.2.2.2.1
  have ok : ∀ w ∈ lw_good, w.before args s = true := fun w h => hts w (List.mem_cons_of_mem _ h)
  refine va_runS (Ts := ws_of q) ⟨C.1, C.2.1, C.2.2.1, C.2.2.2.2.1, hts⟩ (hT H.size) ⟨callB_of n hts (goodIn_ws q q2 (hlk.1 _ (by simp))) rfl rfl rfl (by rw [hlk.2.1]; exact ok _ (hlk.1 _ (by simp))) (ok _ (hlk.1 _ (by simp))) hlk.2.2 hfit, ok _ (hlk.1 _ (by simp))⟩ ⟨pc_blind, fun U hU hWm => ⟨rfl, by rw [hU], by rw [hU]; exact hW.weaken (fun _ _ _ => trivial), C.2.2.2.2.2.2.1.warm hWm⟩⟩ rfl hn hl.1 rfl (lv_room hrest) hd hc
theorem v_callSN {idx n : Nat} {As : List Value} (hT : wT G q2 mc2 ms2 As M Post2) (hlk : lkSN q.1.cls idx q2 n) (hfit : fit2 q q2) (hd : decode q.2.1 pc = .ok (.invokestatic idx, 3)) (hst : st = As.reverse ++ rest) (hn : As.length = n) (hrest : (rest.map fun v => v.category).sum ≤ 8) (hc : kc + mc2 ≤ mc ∧ ks + ms2 ≤ ms)
    (kk : ∀ v M', Post2 v M' → wV G q mc ms sz M0 (kc + mc2) (ks + ms2) (pc + 3) lv (v.toList ++ rest) M' Post) : wV G q mc ms sz M0 kc ks pc lv st M Post := by
  intro p e s m args below meth c H locs ls C hsz hW hm hS hl
  subst hst
  refine v_behind (a := As.toArray) C hsz hW hm hS hl ?_ kk
  have hts := C.2.2.2.2.2.1
  have ok : ∀ w ∈ lw_good, w.before args s = true := fun w h => hts w (List.mem_cons_of_mem _ h)
  obtain ⟨host, hw1, hw2, hw3⟩ := hlk
  refine va_runSN (Ts := ws_of q) (host := host) ⟨C.1, C.2.1, C.2.2.1, C.2.2.2.2.1, hts⟩ (hT H.size) ⟨va_cnB n hts (goodIn_ws q q2 (hw1 _ (by simp))) rfl rfl rfl (C.2.2.2.2.2.2.1.2 _ hw2) (ok _ (hw1 _ (by simp))) hw3 hfit, ok _ (hw1 _ (by simp)), trivial⟩ ⟨pc_blind, fun U hU hWm => ⟨rfl, by rw [hU], by rw [hU]; exact hW.weaken (fun _ _ _ => trivial), C.2.2.2.2.2.2.1.warm hWm⟩⟩ rfl hn hl.1 rfl (lv_room hrest) hd hc
theorem v_callI {idx n b : Nat} {As : List Value} (hT : wT G q2 mc2 ms2 (.ref b :: As) M Post2) (hlk : lkI q.1.cls idx q2 n) (hfit : fit2 q q2) (hd : decode q.2.1 pc = .ok (.invokespecial idx, 3)) (hst : st = As.reverse ++ .ref b :: rest) (hn : As.length = n) (hrest : (rest.map fun v => v.category).sum ≤ 8) (hc : kc + mc2 ≤ mc ∧ ks + ms2 ≤ ms)
    (kk : ∀ v M', Post2 v M' → wV G q mc ms sz M0 (kc + mc2) (ks + ms2) (pc + 3) lv (v.toList ++ rest) M' Post) : wV G q mc ms sz M0 kc ks pc lv st M Post := by
  intro p e s m args below meth c H locs ls C hsz hW hm hS hl
  subst hst
  refine v_behind (a := (Value.ref b :: As).toArray) C hsz hW hm hS hl ?_ kk
  have hts := C.2.2.2.2.2.1
  have ok : ∀ w ∈ lw_good, w.before args s = true := fun w h => hts w (List.mem_cons_of_mem _ h)
  obtain ⟨hw1, hnm, hret, hw3⟩ := hlk
  refine va_runI (bytes := q2.2.1) (maxL := q2.2.2.1) (Ts := ws_of q) ⟨C.1, C.2.1, C.2.2.1, C.2.2.2.2.1, hts⟩ (hT H.size) ⟨callB_of (ret := none) (ws' := lw_good) n hts (goodIn_ws q q2 (by rw [hret]; exact hw1 _ (by simp))) (by unfold ws_of; rw [hret]) rfl rfl (ok _ (hw1 _ (by simp))) (ok _ (hw1 _ (by simp))) hw3 hfit, hnm, ok _ (hw1 _ (by simp))⟩ ⟨pc_blind, fun U hU hWm => ⟨rfl, by rw [hU], by rw [hU]; exact hW.weaken (fun _ _ _ => trivial), C.2.2.2.2.2.2.1.warm hWm⟩⟩ rfl hn hl.1 rfl (lv_room hrest) hd hc
theorem v_callIN {idx n b : Nat} {As : List Value} (hT : wT G q2 mc2 ms2 (.ref b :: As) M Post2) (hlk : lkIN q.1.cls idx q2 n) (hfit : fit2 q q2) (hd : decode q.2.1 pc = .ok (.invokespecial idx, 3)) (hst : st = As.reverse ++ .ref b :: rest) (hn : As.length = n) (hrest : (rest.map fun v => v.category).sum ≤ 8) (hc : kc + mc2 ≤ mc ∧ ks + ms2 ≤ ms)
    (kk : ∀ v M', Post2 v M' → wV G q mc ms sz M0 (kc + mc2) (ks + ms2) (pc + 3) lv (v.toList ++ rest) M' Post) : wV G q mc ms sz M0 kc ks pc lv st M Post := by
  intro p e s m args below meth c H locs ls C hsz hW hm hS hl
  subst hst
  refine v_behind (a := (Value.ref b :: As).toArray) C hsz hW hm hS hl ?_ kk
  have hts := C.2.2.2.2.2.1
  have ok : ∀ w ∈ lw_good, w.before args s = true := fun w h => hts w (List.mem_cons_of_mem _ h)
  obtain ⟨host, hw1, hw2, hnm, hret, hw3⟩ := hlk
  refine va_runIN (host := host) (bytes := q2.2.1) (maxL := q2.2.2.1) (Ts := ws_of q) ⟨C.1, C.2.1, C.2.2.1, C.2.2.2.2.1, hts⟩ (hT H.size) ⟨va_cnB (ret := none) (ws' := lw_good) n hts (goodIn_ws q q2 (by rw [hret]; exact hw1 _ (by simp))) (by unfold ws_of; rw [hret]) rfl rfl (C.2.2.2.2.2.2.1.2 _ hw2) (ok _ (hw1 _ (by simp))) hw3 hfit, hnm, ok _ (hw1 _ (by simp))⟩ ⟨pc_blind, fun U hU hWm => ⟨rfl, by rw [hU], by rw [hU]; exact hW.weaken (fun _ _ _ => trivial), C.2.2.2.2.2.2.1.warm hWm⟩⟩ rfl hn hl.1 rfl (lv_room hrest) hd hc
theorem kI {f : Int → wM → Prop} (k : ∀ r M', rng r → f r M' → wV G q mc ms sz M0 (kc + mc2) (ks + ms2) (pc + 3) lv (.int (gI r) :: rest) M' Post) : ∀ v M', iP f v M' → wV G q mc ms sz M0 (kc + mc2) (ks + ms2) (pc + 3) lv (v.toList ++ rest) M' Post := by
  rintro v M' ⟨r, rfl, hr, h⟩
  exact k r M' hr h
theorem kV {f : wM → Prop} (k : ∀ M', f M' → wV G q mc ms sz M0 (kc + mc2) (ks + ms2) (pc + 3) lv rest M' Post) : ∀ v M', vP f v M' → wV G q mc ms sz M0 (kc + mc2) (ks + ms2) (pc + 3) lv (v.toList ++ rest) M' Post := by
  rintro v M' ⟨rfl, h⟩
  exact k M' h
theorem kR {f : Nat → wM → Prop} (k : ∀ a M', f a M' → wV G q mc ms sz M0 (kc + mc2) (ks + ms2) (pc + 3) lv (.ref a :: rest) M' Post) : ∀ v M', rP f v M' → wV G q mc ms sz M0 (kc + mc2) (ks + ms2) (pc + 3) lv (v.toList ++ rest) M' Post := by
  rintro v M' ⟨a, rfl, h⟩
  exact k a M' h
def lkM (own : String) (idx : Nat) (y : MethodName) (cd : ByteArray) : Prop := ∀ w ∈ ([.methodLink own idx y, .static y, .initialized "java/lang/Math", .code y cd 2 (some .int)] : List Cond), w ∈ lw_good
theorem v_min {idx : Nat} {x y : Int} (hd : decode q.2.1 pc = .ok (.invokestatic idx, 3)) (hlk : lkM q.1.cls idx Lib.Math.min.name Lib.Math.min.code) (hfr : 1 ≤ q.2.2.2.2.1) (hlo : (st.map fun v => v.category).sum + 13 ≤ q.2.2.2.2.2) (hc : kc ≤ mc ∧ ks ≤ ms) (hx : rng x) (hy : rng y)
    (k : wV G q mc ms sz M0 kc ks (pc + 3) lv (.int (gI (if y < x then y else x)) :: st) M Post) : wV G q mc ms sz M0 kc ks pc lv (.int (gI y) :: .int (gI x) :: st) M Post := by
  intro p e s m args below meth c H locs ls C hsz hW hm hS hl
  have ok : ∀ w ∈ lw_good, w.before args s = true := fun w h => C.2.2.2.2.2.1 w (List.mem_cons_of_mem _ h)
  refine va_mmin C.1 C.2.1 (C.2.2.1.trans hl.1.symm) C.2.2.2.2.1 (ok _ (hlk _ (by simp))) (ok _ (hlk _ (by simp))) (ok _ (hlk _ (by simp))) (ok _ (hlk _ (by simp))) hfr hlo hc.1 hc.2 hd ?_
  rw [show (if gI y < gI x then gI y else gI x) = gI (if y < x then y else x) from by simp only [gI_lt hy hx]; split <;> rfl]
  exact k p e s m args below meth c H locs ls C hsz hW hm hS hl
theorem v_max {idx : Nat} {x y : Int} (hd : decode q.2.1 pc = .ok (.invokestatic idx, 3)) (hlk : lkM q.1.cls idx Lib.Math.max.name Lib.Math.max.code) (hfr : 1 ≤ q.2.2.2.2.1) (hlo : (st.map fun v => v.category).sum + 13 ≤ q.2.2.2.2.2) (hc : kc ≤ mc ∧ ks ≤ ms) (hx : rng x) (hy : rng y)
    (k : wV G q mc ms sz M0 kc ks (pc + 3) lv (.int (gI (if x < y then y else x)) :: st) M Post) : wV G q mc ms sz M0 kc ks pc lv (.int (gI y) :: .int (gI x) :: st) M Post := by
  intro p e s m args below meth c H locs ls C hsz hW hm hS hl
  have ok : ∀ w ∈ lw_good, w.before args s = true := fun w h => C.2.2.2.2.2.1 w (List.mem_cons_of_mem _ h)
  refine va_mmax C.1 C.2.1 (C.2.2.1.trans hl.1.symm) C.2.2.2.2.1 (ok _ (hlk _ (by simp))) (ok _ (hlk _ (by simp))) (ok _ (hlk _ (by simp))) (ok _ (hlk _ (by simp))) hfr hlo hc.1 hc.2 hd ?_
  rw [show (if gI x < gI y then gI y else gI x) = gI (if x < y then y else x) from by simp only [gI_lt hx hy]; split <;> rfl]
  exact k p e s m args below meth c H locs ls C hsz hW hm hS hl
end WCALLS
end
