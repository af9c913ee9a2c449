section
-- ===== PART A: goes FIRST, ahead of the names: the tables' words, and 'selects' of the private methods out of them =====
/-- a private method of a class that the tables say can be made, by its rows of tables_1 -/
def lw_okq (q : MethodName × Nat) : Prop := (q.1.cls ≠ "java/lang/invoke/MethodHandle" ∧ q.1.cls ≠ "java/lang/invoke/VarHandle") ∧ Cond.instantiable q.1.cls q.2 ∈ tables_1 ∧ Cond.privateMethod q.1 ∈ tables_1 ∧ Cond.instanceMethod q.1 ∈ tables_1
theorem lw_p0 : lw_okq (⟨"WavePairs", "rowOf", "(II)LWavePairs$Row;"⟩, 11) := ⟨⟨by decide +kernel, by decide +kernel⟩, List.mem_of_getElem? (i := 11) (by decide +kernel), List.mem_of_getElem? (i := 210) (by decide +kernel), List.mem_of_getElem? (i := 211) (by decide +kernel)⟩
theorem lw_p1 : lw_okq (⟨"WavePairs", "seekDifferences", "(II)V"⟩, 11) := ⟨⟨by decide +kernel, by decide +kernel⟩, List.mem_of_getElem? (i := 11) (by decide +kernel), List.mem_of_getElem? (i := 318) (by decide +kernel), List.mem_of_getElem? (i := 319) (by decide +kernel)⟩
theorem lw_p2 : lw_okq (⟨"WavePairs", "namedRow", "(II)LWavePairs$Row;"⟩, 11) := ⟨⟨by decide +kernel, by decide +kernel⟩, List.mem_of_getElem? (i := 11) (by decide +kernel), List.mem_of_getElem? (i := 333) (by decide +kernel), List.mem_of_getElem? (i := 334) (by decide +kernel)⟩
theorem lw_p3 : lw_okq (⟨"WavePairs$Spans", "stop", "(II)I"⟩, 5) := ⟨⟨by decide +kernel, by decide +kernel⟩, List.mem_of_getElem? (i := 27) (by decide +kernel), List.mem_of_getElem? (i := 374) (by decide +kernel), List.mem_of_getElem? (i := 375) (by decide +kernel)⟩
theorem lw_p4 : lw_okq (⟨"WavePairs", "nextAct", "(LWavePairs$Channel;II)I"⟩, 11) := ⟨⟨by decide +kernel, by decide +kernel⟩, List.mem_of_getElem? (i := 11) (by decide +kernel), List.mem_of_getElem? (i := 408) (by decide +kernel), List.mem_of_getElem? (i := 409) (by decide +kernel)⟩
theorem lw_p5 : lw_okq (⟨"WavePairs$Row", "isEdge", "(I)Z"⟩, 3) := ⟨⟨by decide +kernel, by decide +kernel⟩, List.mem_of_getElem? (i := 40) (by decide +kernel), List.mem_of_getElem? (i := 416) (by decide +kernel), List.mem_of_getElem? (i := 417) (by decide +kernel)⟩
theorem lw_p6 : lw_okq (⟨"WavePairs", "hadOneAhead", "(III)Z"⟩, 11) := ⟨⟨by decide +kernel, by decide +kernel⟩, List.mem_of_getElem? (i := 11) (by decide +kernel), List.mem_of_getElem? (i := 420) (by decide +kernel), List.mem_of_getElem? (i := 421) (by decide +kernel)⟩
theorem lw_p7 : lw_okq (⟨"WavePairs", "dataAhead", "(LWavePairs$Channel;II)I"⟩, 11) := ⟨⟨by decide +kernel, by decide +kernel⟩, List.mem_of_getElem? (i := 11) (by decide +kernel), List.mem_of_getElem? (i := 424) (by decide +kernel), List.mem_of_getElem? (i := 425) (by decide +kernel)⟩
theorem lw_p8 : lw_okq (⟨"WavePairs", "hasSignals", "(I)Z"⟩, 11) := ⟨⟨by decide +kernel, by decide +kernel⟩, List.mem_of_getElem? (i := 11) (by decide +kernel), List.mem_of_getElem? (i := 437) (by decide +kernel), List.mem_of_getElem? (i := 438) (by decide +kernel)⟩
theorem lw_p9 : lw_okq (⟨"WavePairs", "fitsBy", "(II)Z"⟩, 11) := ⟨⟨by decide +kernel, by decide +kernel⟩, List.mem_of_getElem? (i := 11) (by decide +kernel), List.mem_of_getElem? (i := 441) (by decide +kernel), List.mem_of_getElem? (i := 442) (by decide +kernel)⟩
theorem lw_p10 : lw_okq (⟨"WavePairs", "agreeAt", "(II)Z"⟩, 11) := ⟨⟨by decide +kernel, by decide +kernel⟩, List.mem_of_getElem? (i := 11) (by decide +kernel), List.mem_of_getElem? (i := 461) (by decide +kernel), List.mem_of_getElem? (i := 462) (by decide +kernel)⟩
theorem lw_p11 : lw_okq (⟨"WavePairs", "inputsAgree", "(LWavePairs$Gate;I)Z"⟩, 11) := ⟨⟨by decide +kernel, by decide +kernel⟩, List.mem_of_getElem? (i := 11) (by decide +kernel), List.mem_of_getElem? (i := 465) (by decide +kernel), List.mem_of_getElem? (i := 466) (by decide +kernel)⟩
theorem lw_p12 : lw_okq (⟨"WavePairs", "storedAgree", "(LWavePairs$Gate;I)Z"⟩, 11) := ⟨⟨by decide +kernel, by decide +kernel⟩, List.mem_of_getElem? (i := 11) (by decide +kernel), List.mem_of_getElem? (i := 469) (by decide +kernel), List.mem_of_getElem? (i := 470) (by decide +kernel)⟩
theorem lw_p13 : lw_okq (⟨"WavePairs$Row", "ticksWithin", "(III)I"⟩, 3) := ⟨⟨by decide +kernel, by decide +kernel⟩, List.mem_of_getElem? (i := 40) (by decide +kernel), List.mem_of_getElem? (i := 498) (by decide +kernel), List.mem_of_getElem? (i := 499) (by decide +kernel)⟩
theorem lw_p14 : lw_okq (⟨"WavePairs", "countChanges", "()I"⟩, 11) := ⟨⟨by decide +kernel, by decide +kernel⟩, List.mem_of_getElem? (i := 11) (by decide +kernel), List.mem_of_getElem? (i := 512) (by decide +kernel), List.mem_of_getElem? (i := 513) (by decide +kernel)⟩
theorem lw_p15 : lw_okq (⟨"WavePairs", "countChannels", "()I"⟩, 11) := ⟨⟨by decide +kernel, by decide +kernel⟩, List.mem_of_getElem? (i := 11) (by decide +kernel), List.mem_of_getElem? (i := 516) (by decide +kernel), List.mem_of_getElem? (i := 517) (by decide +kernel)⟩
def lw_privs_1 : List (MethodName × Nat) := [(⟨"WavePairs", "rowOf", "(II)LWavePairs$Row;"⟩, 11), (⟨"WavePairs", "seekDifferences", "(II)V"⟩, 11), (⟨"WavePairs", "namedRow", "(II)LWavePairs$Row;"⟩, 11), (⟨"WavePairs$Spans", "stop", "(II)I"⟩, 5), (⟨"WavePairs", "nextAct", "(LWavePairs$Channel;II)I"⟩, 11), (⟨"WavePairs$Row", "isEdge", "(I)Z"⟩, 3), (⟨"WavePairs", "hadOneAhead", "(III)Z"⟩, 11), (⟨"WavePairs", "dataAhead", "(LWavePairs$Channel;II)I"⟩, 11), (⟨"WavePairs", "hasSignals", "(I)Z"⟩, 11), (⟨"WavePairs", "fitsBy", "(II)Z"⟩, 11), (⟨"WavePairs", "agreeAt", "(II)Z"⟩, 11), (⟨"WavePairs", "inputsAgree", "(LWavePairs$Gate;I)Z"⟩, 11), (⟨"WavePairs", "storedAgree", "(LWavePairs$Gate;I)Z"⟩, 11), (⟨"WavePairs$Row", "ticksWithin", "(III)I"⟩, 3), (⟨"WavePairs", "countChanges", "()I"⟩, 11), (⟨"WavePairs", "countChannels", "()I"⟩, 11)]
theorem lw_r1 : ∀ q ∈ lw_privs_1, lw_okq q := List.forall_mem_cons.mpr ⟨lw_p0, List.forall_mem_cons.mpr ⟨lw_p1, List.forall_mem_cons.mpr ⟨lw_p2, List.forall_mem_cons.mpr ⟨lw_p3, List.forall_mem_cons.mpr ⟨lw_p4, List.forall_mem_cons.mpr ⟨lw_p5, List.forall_mem_cons.mpr ⟨lw_p6, List.forall_mem_cons.mpr ⟨lw_p7, List.forall_mem_cons.mpr ⟨lw_p8, List.forall_mem_cons.mpr ⟨lw_p9, List.forall_mem_cons.mpr ⟨lw_p10, List.forall_mem_cons.mpr ⟨lw_p11, List.forall_mem_cons.mpr ⟨lw_p12, List.forall_mem_cons.mpr ⟨lw_p13, List.forall_mem_cons.mpr ⟨lw_p14, List.forall_mem_cons.mpr ⟨lw_p15, fun _ h => absurd h List.not_mem_nil⟩⟩⟩⟩⟩⟩⟩⟩⟩⟩⟩⟩⟩⟩⟩⟩
theorem lw_p16 : lw_okq (⟨"WavePairs", "countGates", "()I"⟩, 11) := ⟨⟨by decide +kernel, by decide +kernel⟩, List.mem_of_getElem? (i := 11) (by decide +kernel), List.mem_of_getElem? (i := 520) (by decide +kernel), List.mem_of_getElem? (i := 521) (by decide +kernel)⟩
theorem lw_p17 : lw_okq (⟨"WavePairsModel", "last", "(I)I"⟩, 23) := ⟨⟨by decide +kernel, by decide +kernel⟩, List.mem_of_getElem? (i := 524) (by decide +kernel), List.mem_of_getElem? (i := 614) (by decide +kernel), List.mem_of_getElem? (i := 615) (by decide +kernel)⟩
theorem lw_p18 : lw_okq (⟨"WavePairsModel", "lays", "(III)V"⟩, 23) := ⟨⟨by decide +kernel, by decide +kernel⟩, List.mem_of_getElem? (i := 524) (by decide +kernel), List.mem_of_getElem? (i := 618) (by decide +kernel), List.mem_of_getElem? (i := 619) (by decide +kernel)⟩
theorem lw_p19 : lw_okq (⟨"WavePairsModel", "at", "(III)I"⟩, 23) := ⟨⟨by decide +kernel, by decide +kernel⟩, List.mem_of_getElem? (i := 524) (by decide +kernel), List.mem_of_getElem? (i := 635) (by decide +kernel), List.mem_of_getElem? (i := 636) (by decide +kernel)⟩
theorem lw_p20 : lw_okq (⟨"WavePairsModel", "masked", "(IIII)I"⟩, 23) := ⟨⟨by decide +kernel, by decide +kernel⟩, List.mem_of_getElem? (i := 524) (by decide +kernel), List.mem_of_getElem? (i := 655) (by decide +kernel), List.mem_of_getElem? (i := 656) (by decide +kernel)⟩
theorem lw_p21 : lw_okq (⟨"WavePairsModel", "spans", "(I)I"⟩, 23) := ⟨⟨by decide +kernel, by decide +kernel⟩, List.mem_of_getElem? (i := 524) (by decide +kernel), List.mem_of_getElem? (i := 671) (by decide +kernel), List.mem_of_getElem? (i := 672) (by decide +kernel)⟩
theorem lw_p22 : lw_okq (⟨"WavePairsModel", "differs", "(III)Z"⟩, 23) := ⟨⟨by decide +kernel, by decide +kernel⟩, List.mem_of_getElem? (i := 524) (by decide +kernel), List.mem_of_getElem? (i := 675) (by decide +kernel), List.mem_of_getElem? (i := 676) (by decide +kernel)⟩
theorem lw_p23 : lw_okq (⟨"WavePairsModel", "agree", "(II)Z"⟩, 23) := ⟨⟨by decide +kernel, by decide +kernel⟩, List.mem_of_getElem? (i := 524) (by decide +kernel), List.mem_of_getElem? (i := 679) (by decide +kernel), List.mem_of_getElem? (i := 680) (by decide +kernel)⟩
theorem lw_p24 : lw_okq (⟨"WavePairsModel", "isMasked", "(II)Z"⟩, 23) := ⟨⟨by decide +kernel, by decide +kernel⟩, List.mem_of_getElem? (i := 524) (by decide +kernel), List.mem_of_getElem? (i := 683) (by decide +kernel), List.mem_of_getElem? (i := 684) (by decide +kernel)⟩
theorem lw_p25 : lw_okq (⟨"WavePairsModel", "found", "(IIIII)I"⟩, 23) := ⟨⟨by decide +kernel, by decide +kernel⟩, List.mem_of_getElem? (i := 524) (by decide +kernel), List.mem_of_getElem? (i := 687) (by decide +kernel), List.mem_of_getElem? (i := 688) (by decide +kernel)⟩
theorem lw_p26 : lw_okq (⟨"WavePairsModel", "next", "(III)I"⟩, 23) := ⟨⟨by decide +kernel, by decide +kernel⟩, List.mem_of_getElem? (i := 524) (by decide +kernel), List.mem_of_getElem? (i := 691) (by decide +kernel), List.mem_of_getElem? (i := 692) (by decide +kernel)⟩
theorem lw_p27 : lw_okq (⟨"WavePairsModel", "nextChange", "(III)I"⟩, 23) := ⟨⟨by decide +kernel, by decide +kernel⟩, List.mem_of_getElem? (i := 524) (by decide +kernel), List.mem_of_getElem? (i := 695) (by decide +kernel), List.mem_of_getElem? (i := 696) (by decide +kernel)⟩
theorem lw_p28 : lw_okq (⟨"WavePairsModel", "acts", "(III)I"⟩, 23) := ⟨⟨by decide +kernel, by decide +kernel⟩, List.mem_of_getElem? (i := 524) (by decide +kernel), List.mem_of_getElem? (i := 719) (by decide +kernel), List.mem_of_getElem? (i := 720) (by decide +kernel)⟩
theorem lw_p29 : lw_okq (⟨"WavePairsModel", "called", "(II)I"⟩, 23) := ⟨⟨by decide +kernel, by decide +kernel⟩, List.mem_of_getElem? (i := 524) (by decide +kernel), List.mem_of_getElem? (i := 723) (by decide +kernel), List.mem_of_getElem? (i := 724) (by decide +kernel)⟩
theorem lw_p30 : lw_okq (⟨"WavePairsModel", "isEdge", "(III)Z"⟩, 23) := ⟨⟨by decide +kernel, by decide +kernel⟩, List.mem_of_getElem? (i := 524) (by decide +kernel), List.mem_of_getElem? (i := 727) (by decide +kernel), List.mem_of_getElem? (i := 728) (by decide +kernel)⟩
theorem lw_p31 : lw_okq (⟨"WavePairsModel", "fits", "(II)Z"⟩, 23) := ⟨⟨by decide +kernel, by decide +kernel⟩, List.mem_of_getElem? (i := 524) (by decide +kernel), List.mem_of_getElem? (i := 739) (by decide +kernel), List.mem_of_getElem? (i := 740) (by decide +kernel)⟩
def lw_privs_2 : List (MethodName × Nat) := [(⟨"WavePairs", "countGates", "()I"⟩, 11), (⟨"WavePairsModel", "last", "(I)I"⟩, 23), (⟨"WavePairsModel", "lays", "(III)V"⟩, 23), (⟨"WavePairsModel", "at", "(III)I"⟩, 23), (⟨"WavePairsModel", "masked", "(IIII)I"⟩, 23), (⟨"WavePairsModel", "spans", "(I)I"⟩, 23), (⟨"WavePairsModel", "differs", "(III)Z"⟩, 23), (⟨"WavePairsModel", "agree", "(II)Z"⟩, 23), (⟨"WavePairsModel", "isMasked", "(II)Z"⟩, 23), (⟨"WavePairsModel", "found", "(IIIII)I"⟩, 23), (⟨"WavePairsModel", "next", "(III)I"⟩, 23), (⟨"WavePairsModel", "nextChange", "(III)I"⟩, 23), (⟨"WavePairsModel", "acts", "(III)I"⟩, 23), (⟨"WavePairsModel", "called", "(II)I"⟩, 23), (⟨"WavePairsModel", "isEdge", "(III)Z"⟩, 23), (⟨"WavePairsModel", "fits", "(II)Z"⟩, 23)]
theorem lw_r2 : ∀ q ∈ lw_privs_2, lw_okq q := List.forall_mem_cons.mpr ⟨lw_p16, List.forall_mem_cons.mpr ⟨lw_p17, List.forall_mem_cons.mpr ⟨lw_p18, List.forall_mem_cons.mpr ⟨lw_p19, List.forall_mem_cons.mpr ⟨lw_p20, List.forall_mem_cons.mpr ⟨lw_p21, List.forall_mem_cons.mpr ⟨lw_p22, List.forall_mem_cons.mpr ⟨lw_p23, List.forall_mem_cons.mpr ⟨lw_p24, List.forall_mem_cons.mpr ⟨lw_p25, List.forall_mem_cons.mpr ⟨lw_p26, List.forall_mem_cons.mpr ⟨lw_p27, List.forall_mem_cons.mpr ⟨lw_p28, List.forall_mem_cons.mpr ⟨lw_p29, List.forall_mem_cons.mpr ⟨lw_p30, List.forall_mem_cons.mpr ⟨lw_p31, fun _ h => absurd h List.not_mem_nil⟩⟩⟩⟩⟩⟩⟩⟩⟩⟩⟩⟩⟩⟩⟩⟩
theorem lw_p32 : lw_okq (⟨"WavePairsModel", "agreeAt", "(II)Z"⟩, 23) := ⟨⟨by decide +kernel, by decide +kernel⟩, List.mem_of_getElem? (i := 524) (by decide +kernel), List.mem_of_getElem? (i := 751) (by decide +kernel), List.mem_of_getElem? (i := 752) (by decide +kernel)⟩
theorem lw_p33 : lw_okq (⟨"WavePairsModel", "inputsAgree", "(II)Z"⟩, 23) := ⟨⟨by decide +kernel, by decide +kernel⟩, List.mem_of_getElem? (i := 524) (by decide +kernel), List.mem_of_getElem? (i := 755) (by decide +kernel), List.mem_of_getElem? (i := 756) (by decide +kernel)⟩
theorem lw_p34 : lw_okq (⟨"WavePairsModel", "edge", "(III)I"⟩, 23) := ⟨⟨by decide +kernel, by decide +kernel⟩, List.mem_of_getElem? (i := 524) (by decide +kernel), List.mem_of_getElem? (i := 759) (by decide +kernel), List.mem_of_getElem? (i := 760) (by decide +kernel)⟩
theorem lw_p35 : lw_okq (⟨"WavePairsModel", "behave", "(II)Z"⟩, 23) := ⟨⟨by decide +kernel, by decide +kernel⟩, List.mem_of_getElem? (i := 524) (by decide +kernel), List.mem_of_getElem? (i := 767) (by decide +kernel), List.mem_of_getElem? (i := 768) (by decide +kernel)⟩
def lw_privs_3 : List (MethodName × Nat) := [(⟨"WavePairsModel", "agreeAt", "(II)Z"⟩, 23), (⟨"WavePairsModel", "inputsAgree", "(II)Z"⟩, 23), (⟨"WavePairsModel", "edge", "(III)I"⟩, 23), (⟨"WavePairsModel", "behave", "(II)Z"⟩, 23)]
theorem lw_r3 : ∀ q ∈ lw_privs_3, lw_okq q := List.forall_mem_cons.mpr ⟨lw_p32, List.forall_mem_cons.mpr ⟨lw_p33, List.forall_mem_cons.mpr ⟨lw_p34, List.forall_mem_cons.mpr ⟨lw_p35, fun _ h => absurd h List.not_mem_nil⟩⟩⟩⟩
def lw_privs : List (MethodName × Nat) := lw_privs_1 ++ (lw_privs_2 ++ (lw_privs_3))
def lw_tbl : List Cond := k2_sels lw_privs ++ tables_1
theorem lw_privs_ok : ∀ q ∈ lw_privs, lw_okq q := by
  show ∀ q ∈ lw_privs_1 ++ (lw_privs_2 ++ (lw_privs_3)), lw_okq q
  exact List.forall_mem_append.mpr ⟨lw_r1, List.forall_mem_append.mpr ⟨lw_r2, lw_r3⟩⟩
-- ===== end of PART A; then your names; then what follows =====
end
section
def RX0 : String := "WavePairs$Channel"
def TX0 : u_T := fun k => match k with
  | 0 => ("WavePairs$Channel", "isTold", "Z", false)
  | 1 => ("WavePairs$Channel", "clock", "I", false)
  | 2 => ("WavePairs$Channel", "valid", "I", false)
  | 3 => ("WavePairs$Channel", "ready", "I", false)
  | _ => ("WavePairs$Channel", "data", "I", false)
def tyX0 : Nat → FieldType := fun k => match k with
  | 0 => .boolean
  | 1 => .int
  | 2 => .int
  | 3 => .int
  | _ => .int
abbrev wsX00 : List Cond := u_ws RX0 TX0 5
theorem nmX0 : ∀ a, a < 5 → ∀ b, b < 5 → a ≠ b → (TX0 a).2.1 ≠ (TX0 b).2.1 := by decide +kernel
theorem tyX0_ok : ∀ k, k < 5 → parseFieldDescriptor (TX0 k).2.2.1 = some (tyX0 k) := by decide +kernel
abbrev cX0_init : ByteArray := prog_2_method_1_code
def yX0_init : MethodName := ⟨RX0, "<init>", "()V"⟩
abbrev cX0_tell : ByteArray := prog_2_method_2_code
def yX0_tell : MethodName := ⟨RX0, "tell", "(IIII)V"⟩
def RX1 : String := "WavePairs$Gate"
def TX1 : u_T := fun k => match k with
  | 0 => ("WavePairs$Gate", "kind", "I", false)
  | 1 => ("WavePairs$Gate", "a", "I", false)
  | _ => ("WavePairs$Gate", "b", "I", false)
def tyX1 : Nat → FieldType := fun k => match k with
  | 0 => .int
  | 1 => .int
  | _ => .int
abbrev wsX10 : List Cond := u_ws RX1 TX1 3
theorem nmX1 : ∀ a, a < 3 → ∀ b, b < 3 → a ≠ b → (TX1 a).2.1 ≠ (TX1 b).2.1 := by decide +kernel
theorem tyX1_ok : ∀ k, k < 3 → parseFieldDescriptor (TX1 k).2.2.1 = some (tyX1 k) := by decide +kernel
abbrev cX1_init : ByteArray := prog_3_method_1_code
def yX1_init : MethodName := ⟨RX1, "<init>", "()V"⟩
abbrev cX1_tell : ByteArray := prog_3_method_2_code
def yX1_tell : MethodName := ⟨RX1, "tell", "(III)V"⟩
def RX2 : String := "WavePairs$Mask"
def TX2 : u_T := fun k => match k with
  | 0 => ("WavePairs$Mask", "ticks", "LWavePairs$Row;", true)
  | 1 => ("WavePairs$Mask", "signal", "I", false)
  | 2 => ("WavePairs$Mask", "row", "LWavePairs$Row;", false)
  | _ => ("WavePairs$Mask", "value", "I", false)
def tyX2 : Nat → FieldType := fun k => match k with
  | 0 => .object "WavePairs$Row"
  | 1 => .int
  | 2 => .object "WavePairs$Row"
  | _ => .int
abbrev wsX20 : List Cond := u_ws RX2 TX2 4
theorem nmX2 : ∀ a, a < 4 → ∀ b, b < 4 → a ≠ b → (TX2 a).2.1 ≠ (TX2 b).2.1 := by decide +kernel
theorem tyX2_ok : ∀ k, k < 4 → parseFieldDescriptor (TX2 k).2.2.1 = some (tyX2 k) := by decide +kernel
abbrev cX2_init : ByteArray := prog_4_method_1_code
def yX2_init : MethodName := ⟨RX2, "<init>", "()V"⟩
abbrev cX2_coverTicks : ByteArray := prog_4_method_2_code
def yX2_coverTicks : MethodName := ⟨RX2, "coverTicks", "(III)V"⟩
abbrev cX2_coverWhile : ByteArray := prog_4_method_3_code
def yX2_coverWhile : MethodName := ⟨RX2, "coverWhile", "(ILWavePairs$Row;I)V"⟩
def RX3 : String := "WavePairs$Pair"
def TX3 : u_T := fun k => match k with
  | 0 => ("WavePairs$Pair", "steady", "LWavePairs$Row;", true)
  | 1 => ("WavePairs$Pair", "left", "LWavePairs$Row;", false)
  | 2 => ("WavePairs$Pair", "right", "LWavePairs$Row;", false)
  | 3 => ("WavePairs$Pair", "lag", "I", false)
  | 4 => ("WavePairs$Pair", "isLoose", "Z", false)
  | _ => ("WavePairs$Pair", "wantsAlike", "Z", false)
def tyX3 : Nat → FieldType := fun k => match k with
  | 0 => .object "WavePairs$Row"
  | 1 => .object "WavePairs$Row"
  | 2 => .object "WavePairs$Row"
  | 3 => .int
  | 4 => .boolean
  | _ => .boolean
abbrev wsX30 : List Cond := u_ws RX3 TX3 6
theorem nmX3 : ∀ a, a < 6 → ∀ b, b < 6 → a ≠ b → (TX3 a).2.1 ≠ (TX3 b).2.1 := by decide +kernel
theorem tyX3_ok : ∀ k, k < 6 → parseFieldDescriptor (TX3 k).2.2.1 = some (tyX3 k) := by decide +kernel
abbrev cX3_init : ByteArray := prog_5_method_1_code
def yX3_init : MethodName := ⟨RX3, "<init>", "()V"⟩
abbrev cX3_wantUnlike : ByteArray := prog_5_method_2_code
def yX3_wantUnlike : MethodName := ⟨RX3, "wantUnlike", "(LWavePairs$Row;LWavePairs$Row;IZ)V"⟩
abbrev cX3_wantValue : ByteArray := prog_5_method_3_code
def yX3_wantValue : MethodName := ⟨RX3, "wantValue", "(LWavePairs$Row;I)V"⟩
abbrev cX3_wantValueNot : ByteArray := prog_5_method_4_code
def yX3_wantValueNot : MethodName := ⟨RX3, "wantValueNot", "(LWavePairs$Row;I)V"⟩
abbrev cX3_nextTick : ByteArray := prog_5_method_5_code
def yX3_nextTick : MethodName := ⟨RX3, "nextTick", "(IIZ)I"⟩
def RX4 : String := "WavePairs$Row"
def TX4 : u_T := fun k => match k with
  | 0 => ("WavePairs$Row", "ticks", "[I", true)
  | 1 => ("WavePairs$Row", "values", "[I", true)
  | _ => ("WavePairs$Row", "size", "I", false)
def tyX4 : Nat → FieldType := fun k => match k with
  | 0 => .array .int
  | 1 => .array .int
  | _ => .int
abbrev wsX40 : List Cond := u_ws RX4 TX4 3
theorem nmX4 : ∀ a, a < 3 → ∀ b, b < 3 → a ≠ b → (TX4 a).2.1 ≠ (TX4 b).2.1 := by decide +kernel
theorem tyX4_ok : ∀ k, k < 3 → parseFieldDescriptor (TX4 k).2.2.1 = some (tyX4 k) := by decide +kernel
abbrev cX4_init : ByteArray := prog_6_method_1_code
def yX4_init : MethodName := ⟨RX4, "<init>", "()V"⟩
abbrev cX4_size : ByteArray := prog_6_method_2_code
def yX4_size : MethodName := ⟨RX4, "size", "()I"⟩
abbrev cX4_lacksRoom : ByteArray := prog_6_method_3_code
def yX4_lacksRoom : MethodName := ⟨RX4, "lacksRoom", "(I)Z"⟩
abbrev cX4_put : ByteArray := prog_6_method_4_code
def yX4_put : MethodName := ⟨RX4, "put", "(II)V"⟩
abbrev cX4_clear : ByteArray := prog_6_method_5_code
def yX4_clear : MethodName := ⟨RX4, "clear", "()V"⟩
abbrev cX4_dropFrom : ByteArray := prog_6_method_6_code
def yX4_dropFrom : MethodName := ⟨RX4, "dropFrom", "(I)I"⟩
abbrev cX4_lastTick : ByteArray := prog_6_method_7_code
def yX4_lastTick : MethodName := ⟨RX4, "lastTick", "()I"⟩
abbrev cX4_tickOf : ByteArray := prog_6_method_8_code
def yX4_tickOf : MethodName := ⟨RX4, "tickOf", "(I)I"⟩
abbrev cX4_valueOf : ByteArray := prog_6_method_9_code
def yX4_valueOf : MethodName := ⟨RX4, "valueOf", "(I)I"⟩
abbrev cX4_valueAt : ByteArray := prog_6_method_10_code
def yX4_valueAt : MethodName := ⟨RX4, "valueAt", "(I)I"⟩
abbrev cX4_latest : ByteArray := prog_6_method_11_code
def yX4_latest : MethodName := ⟨RX4, "latest", "(I)I"⟩
abbrev cX4_isEdge : ByteArray := prog_6_method_12_code
def yX4_isEdge : MethodName := ⟨RX4, "isEdge", "(I)Z"⟩
abbrev cX4_nextEdge : ByteArray := prog_6_method_13_code
def yX4_nextEdge : MethodName := ⟨RX4, "nextEdge", "(II)I"⟩
abbrev cX4_latestEdge : ByteArray := prog_6_method_14_code
def yX4_latestEdge : MethodName := ⟨RX4, "latestEdge", "(I)I"⟩
abbrev cX4_turns : ByteArray := prog_6_method_15_code
def yX4_turns : MethodName := ⟨RX4, "turns", "(II)I"⟩
abbrev cX4_ticksNotKnown : ByteArray := prog_6_method_16_code
def yX4_ticksNotKnown : MethodName := ⟨RX4, "ticksNotKnown", "(II)I"⟩
abbrev cX4_sumKnown : ByteArray := prog_6_method_17_code
def yX4_sumKnown : MethodName := ⟨RX4, "sumKnown", "(II)I"⟩
abbrev cX4_ticksWithin : ByteArray := prog_6_method_18_code
def yX4_ticksWithin : MethodName := ⟨RX4, "ticksWithin", "(III)I"⟩
def RX5 : String := "WavePairs$Spans"
def TX5 : u_T := fun k => match k with
  | 0 => ("WavePairs$Spans", "pairs", "[LWavePairs$Pair;", true)
  | 1 => ("WavePairs$Spans", "size", "I", false)
  | 2 => ("WavePairs$Spans", "seen", "I", false)
  | 3 => ("WavePairs$Spans", "from", "I", false)
  | _ => ("WavePairs$Spans", "upTo", "I", false)
def tyX5 : Nat → FieldType := fun k => match k with
  | 0 => .array (.object "WavePairs$Pair")
  | 1 => .int
  | 2 => .int
  | 3 => .int
  | _ => .int
abbrev wsX50 : List Cond := u_ws RX5 TX5 5
theorem nmX5 : ∀ a, a < 5 → ∀ b, b < 5 → a ≠ b → (TX5 a).2.1 ≠ (TX5 b).2.1 := by decide +kernel
theorem tyX5_ok : ∀ k, k < 5 → parseFieldDescriptor (TX5 k).2.2.1 = some (tyX5 k) := by decide +kernel
abbrev cX5_init : ByteArray := prog_7_method_1_code
def yX5_init : MethodName := ⟨RX5, "<init>", "()V"⟩
abbrev cX5_clear : ByteArray := prog_7_method_2_code
def yX5_clear : MethodName := ⟨RX5, "clear", "()V"⟩
abbrev cX5_take : ByteArray := prog_7_method_3_code
def yX5_take : MethodName := ⟨RX5, "take", "()LWavePairs$Pair;"⟩
abbrev cX5_start : ByteArray := prog_7_method_4_code
def yX5_start : MethodName := ⟨RX5, "start", "(II)I"⟩
abbrev cX5_stop : ByteArray := prog_7_method_5_code
def yX5_stop : MethodName := ⟨RX5, "stop", "(II)I"⟩
abbrev cX5_find : ByteArray := prog_7_method_6_code
def yX5_find : MethodName := ⟨RX5, "find", "(III)Z"⟩
abbrev cX5_howMany : ByteArray := prog_7_method_7_code
def yX5_howMany : MethodName := ⟨RX5, "howMany", "(II)I"⟩
abbrev cX5_seen : ByteArray := prog_7_method_8_code
def yX5_seen : MethodName := ⟨RX5, "seen", "()I"⟩
abbrev cX5_edgeFound : ByteArray := prog_7_method_9_code
def yX5_edgeFound : MethodName := ⟨RX5, "edgeFound", "(I)I"⟩
def RX6 : String := "WavePairs"
def TX6 : u_T := fun k => match k with
  | 0 => ("WavePairs", "rows", "[LWavePairs$Row;", true)
  | 1 => ("WavePairs", "names", "[I", true)
  | 2 => ("WavePairs", "groups", "[I", true)
  | 3 => ("WavePairs", "shifts", "[I", true)
  | 4 => ("WavePairs", "masks", "[LWavePairs$Mask;", true)
  | 5 => ("WavePairs", "channels", "[LWavePairs$Channel;", true)
  | 6 => ("WavePairs", "gates", "[LWavePairs$Gate;", true)
  | 7 => ("WavePairs", "spans", "LWavePairs$Spans;", true)
  | 8 => ("WavePairs", "maskCount", "I", false)
  | 9 => ("WavePairs", "end", "I", false)
  | _ => ("WavePairs", "loose", "Z", false)
def tyX6 : Nat → FieldType := fun k => match k with
  | 0 => .array (.object "WavePairs$Row")
  | 1 => .array .int
  | 2 => .array .int
  | 3 => .array .int
  | 4 => .array (.object "WavePairs$Mask")
  | 5 => .array (.object "WavePairs$Channel")
  | 6 => .array (.object "WavePairs$Gate")
  | 7 => .object "WavePairs$Spans"
  | 8 => .int
  | 9 => .int
  | _ => .boolean
abbrev wsX60 : List Cond := u_ws RX6 TX6 11
theorem nmX6 : ∀ a, a < 11 → ∀ b, b < 11 → a ≠ b → (TX6 a).2.1 ≠ (TX6 b).2.1 := by decide +kernel
theorem tyX6_ok : ∀ k, k < 11 → parseFieldDescriptor (TX6 k).2.2.1 = some (tyX6 k) := by decide +kernel
abbrev cX6_init : ByteArray := prog_1_method_1_code
def yX6_init : MethodName := ⟨RX6, "<init>", "()V"⟩
abbrev cX6_change : ByteArray := prog_1_method_2_code
def yX6_change : MethodName := ⟨RX6, "change", "(IIII)I"⟩
abbrev cX6_changes : ByteArray := prog_1_method_3_code
def yX6_changes : MethodName := ⟨RX6, "changes", "(IIIJ)I"⟩
abbrev cX6_cut : ByteArray := prog_1_method_4_code
def yX6_cut : MethodName := ⟨RX6, "cut", "(III)I"⟩
abbrev cX6_value : ByteArray := prog_1_method_5_code
def yX6_value : MethodName := ⟨RX6, "value", "(III)I"⟩
abbrev cX6_areChanges : ByteArray := prog_1_method_6_code
def yX6_areChanges : MethodName := ⟨RX6, "areChanges", "(IIJ)Z"⟩
abbrev cX6_packedTicks : ByteArray := prog_1_method_7_code
def yX6_packedTicks : MethodName := ⟨RX6, "packedTicks", "(IJI)I"⟩
abbrev cX6_packedValue : ByteArray := prog_1_method_8_code
def yX6_packedValue : MethodName := ⟨RX6, "packedValue", "(IJI)I"⟩
abbrev cX6_packed : ByteArray := prog_1_method_9_code
def yX6_packed : MethodName := ⟨RX6, "packed", "(IJI)I"⟩
abbrev cX6_rule : ByteArray := prog_1_method_10_code
def yX6_rule : MethodName := ⟨RX6, "rule", "(II)I"⟩
abbrev cX6_call : ByteArray := prog_1_method_11_code
def yX6_call : MethodName := ⟨RX6, "call", "(III)I"⟩
abbrev cX6_shift : ByteArray := prog_1_method_12_code
def yX6_shift : MethodName := ⟨RX6, "shift", "(II)I"⟩
abbrev cX6_mask : ByteArray := prog_1_method_13_code
def yX6_mask : MethodName := ⟨RX6, "mask", "(III)I"⟩
abbrev cX6_maskWhile : ByteArray := prog_1_method_14_code
def yX6_maskWhile : MethodName := ⟨RX6, "maskWhile", "(III)I"⟩
abbrev cX6_noMasks : ByteArray := prog_1_method_15_code
def yX6_noMasks : MethodName := ⟨RX6, "noMasks", "()I"⟩
abbrev cX6_differences : ByteArray := prog_1_method_16_code
def yX6_differences : MethodName := ⟨RX6, "differences", "()I"⟩
abbrev cX6_difference : ByteArray := prog_1_method_17_code
def yX6_difference : MethodName := ⟨RX6, "difference", "(II)I"⟩
abbrev cX6_first : ByteArray := prog_1_method_18_code
def yX6_first : MethodName := ⟨RX6, "first", "()I"⟩
abbrev cX6_seekDifferences : ByteArray := prog_1_method_19_code
def yX6_seekDifferences : MethodName := ⟨RX6, "seekDifferences", "(II)V"⟩
abbrev cX6_channel : ByteArray := prog_1_method_20_code
def yX6_channel : MethodName := ⟨RX6, "channel", "(IIIII)I"⟩
abbrev cX6_act : ByteArray := prog_1_method_21_code
def yX6_act : MethodName := ⟨RX6, "act", "(IIII)I"⟩
abbrev cX6_unlike : ByteArray := prog_1_method_22_code
def yX6_unlike : MethodName := ⟨RX6, "unlike", "(I)I"⟩
abbrev cX6_nextAct : ByteArray := prog_1_method_23_code
def yX6_nextAct : MethodName := ⟨RX6, "nextAct", "(LWavePairs$Channel;II)I"⟩
abbrev cX6_hadOneAhead : ByteArray := prog_1_method_24_code
def yX6_hadOneAhead : MethodName := ⟨RX6, "hadOneAhead", "(III)Z"⟩
abbrev cX6_dataAhead : ByteArray := prog_1_method_25_code
def yX6_dataAhead : MethodName := ⟨RX6, "dataAhead", "(LWavePairs$Channel;II)I"⟩
abbrev cX6_fit : ByteArray := prog_1_method_26_code
def yX6_fit : MethodName := ⟨RX6, "fit", "(I)I"⟩
abbrev cX6_hasSignals : ByteArray := prog_1_method_27_code
def yX6_hasSignals : MethodName := ⟨RX6, "hasSignals", "(I)Z"⟩
abbrev cX6_fitsBy : ByteArray := prog_1_method_28_code
def yX6_fitsBy : MethodName := ⟨RX6, "fitsBy", "(II)Z"⟩
abbrev cX6_gate : ByteArray := prog_1_method_29_code
def yX6_gate : MethodName := ⟨RX6, "gate", "(IIII)I"⟩
abbrev cX6_guilty : ByteArray := prog_1_method_30_code
def yX6_guilty : MethodName := ⟨RX6, "guilty", "(I)I"⟩
abbrev cX6_inputsAgree : ByteArray := prog_1_method_31_code
def yX6_inputsAgree : MethodName := ⟨RX6, "inputsAgree", "(LWavePairs$Gate;I)Z"⟩
abbrev cX6_storedAgree : ByteArray := prog_1_method_32_code
def yX6_storedAgree : MethodName := ⟨RX6, "storedAgree", "(LWavePairs$Gate;I)Z"⟩
abbrev cX6_agreeAt : ByteArray := prog_1_method_33_code
def yX6_agreeAt : MethodName := ⟨RX6, "agreeAt", "(II)Z"⟩
abbrev cX6_alike : ByteArray := prog_1_method_34_code
def yX6_alike : MethodName := ⟨RX6, "alike", "(I)I"⟩
abbrev cX6_holds : ByteArray := prog_1_method_35_code
def yX6_holds : MethodName := ⟨RX6, "holds", "(IIIIIIII)I"⟩
abbrev cX6_window : ByteArray := prog_1_method_36_code
def yX6_window : MethodName := ⟨RX6, "window", "(IIIII)I"⟩
abbrev cX6_count : ByteArray := prog_1_method_37_code
def yX6_count : MethodName := ⟨RX6, "count", "(I)I"⟩
abbrev cX6_countChanges : ByteArray := prog_1_method_38_code
def yX6_countChanges : MethodName := ⟨RX6, "countChanges", "()I"⟩
abbrev cX6_countChannels : ByteArray := prog_1_method_39_code
def yX6_countChannels : MethodName := ⟨RX6, "countChannels", "()I"⟩
abbrev cX6_countGates : ByteArray := prog_1_method_40_code
def yX6_countGates : MethodName := ⟨RX6, "countGates", "()I"⟩
abbrev cX6_outside : ByteArray := prog_1_method_41_code
def yX6_outside : MethodName := ⟨RX6, "outside", "(III)Z"⟩
abbrev cX6_isNoSignal : ByteArray := prog_1_method_42_code
def yX6_isNoSignal : MethodName := ⟨RX6, "isNoSignal", "(I)Z"⟩
abbrev cX6_isNoRow : ByteArray := prog_1_method_43_code
def yX6_isNoRow : MethodName := ⟨RX6, "isNoRow", "(II)Z"⟩
abbrev cX6_isNoValue : ByteArray := prog_1_method_44_code
def yX6_isNoValue : MethodName := ⟨RX6, "isNoValue", "(I)Z"⟩
abbrev cX6_agree : ByteArray := prog_1_method_45_code
def yX6_agree : MethodName := ⟨RX6, "agree", "(IIZ)Z"⟩
abbrev cX6_rowOf : ByteArray := prog_1_method_46_code
def yX6_rowOf : MethodName := ⟨RX6, "rowOf", "(II)LWavePairs$Row;"⟩
abbrev cX6_namedRow : ByteArray := prog_1_method_47_code
def yX6_namedRow : MethodName := ⟨RX6, "namedRow", "(II)LWavePairs$Row;"⟩
def RX7 : String := "WavePairsModel"
def TX7 : u_T := fun k => match k with
  | 0 => ("WavePairsModel", "end", "I", false)
  | 1 => ("WavePairsModel", "loose", "I", false)
  | 2 => ("WavePairsModel", "many", "[I", true)
  | 3 => ("WavePairsModel", "tick", "[I", true)
  | 4 => ("WavePairsModel", "value", "[I", true)
  | 5 => ("WavePairsModel", "name", "[I", true)
  | 6 => ("WavePairsModel", "group", "[I", true)
  | 7 => ("WavePairsModel", "shifts", "[I", true)
  | 8 => ("WavePairsModel", "masks", "I", false)
  | 9 => ("WavePairsModel", "maskOf", "[I", true)
  | 10 => ("WavePairsModel", "maskA", "[I", true)
  | 11 => ("WavePairsModel", "maskB", "[I", true)
  | 12 => ("WavePairsModel", "maskBy", "[I", true)
  | 13 => ("WavePairsModel", "isChannel", "[Z", true)
  | 14 => ("WavePairsModel", "channel", "[I", true)
  | 15 => ("WavePairsModel", "gate", "[I", true)
  | 16 => ("WavePairsModel", "gateA", "[I", true)
  | 17 => ("WavePairsModel", "gateB", "[I", true)
  | 18 => ("WavePairsModel", "spanSignal", "I", false)
  | 19 => ("WavePairsModel", "spanFrom", "I", false)
  | 20 => ("WavePairsModel", "spanTo", "I", false)
  | 21 => ("WavePairsModel", "actTick", "I", false)
  | _ => ("WavePairsModel", "actValue", "I", false)
def tyX7 : Nat → FieldType := fun k => match k with
  | 0 => .int
  | 1 => .int
  | 2 => .array .int
  | 3 => .array .int
  | 4 => .array .int
  | 5 => .array .int
  | 6 => .array .int
  | 7 => .array .int
  | 8 => .int
  | 9 => .array .int
  | 10 => .array .int
  | 11 => .array .int
  | 12 => .array .int
  | 13 => .array .boolean
  | 14 => .array .int
  | 15 => .array .int
  | 16 => .array .int
  | 17 => .array .int
  | 18 => .int
  | 19 => .int
  | 20 => .int
  | 21 => .int
  | _ => .int
abbrev wsX70 : List Cond := u_ws RX7 TX7 23
theorem nmX7 : ∀ a, a < 23 → ∀ b, b < 23 → a ≠ b → (TX7 a).2.1 ≠ (TX7 b).2.1 := by decide +kernel
theorem tyX7_ok : ∀ k, k < 23 → parseFieldDescriptor (TX7 k).2.2.1 = some (tyX7 k) := by decide +kernel
abbrev cX7_init : ByteArray := prog_9_method_1_code
def yX7_init : MethodName := ⟨RX7, "<init>", "()V"⟩
abbrev cX7_in : ByteArray := prog_9_method_2_code
def yX7_in : MethodName := ⟨RX7, "in", "(III)Z"⟩
abbrev cX7_isSignal : ByteArray := prog_9_method_3_code
def yX7_isSignal : MethodName := ⟨RX7, "isSignal", "(I)Z"⟩
abbrev cX7_isRow : ByteArray := prog_9_method_4_code
def yX7_isRow : MethodName := ⟨RX7, "isRow", "(II)Z"⟩
abbrev cX7_last : ByteArray := prog_9_method_5_code
def yX7_last : MethodName := ⟨RX7, "last", "(I)I"⟩
abbrev cX7_lays : ByteArray := prog_9_method_6_code
def yX7_lays : MethodName := ⟨RX7, "lays", "(III)V"⟩
abbrev cX7_change : ByteArray := prog_9_method_7_code
def yX7_change : MethodName := ⟨RX7, "change", "(IIII)I"⟩
abbrev cX7_changes : ByteArray := prog_9_method_8_code
def yX7_changes : MethodName := ⟨RX7, "changes", "(IIIJ)I"⟩
abbrev cX7_cut : ByteArray := prog_9_method_9_code
def yX7_cut : MethodName := ⟨RX7, "cut", "(III)I"⟩
abbrev cX7_at : ByteArray := prog_9_method_10_code
def yX7_at : MethodName := ⟨RX7, "at", "(III)I"⟩
abbrev cX7_nextChange : ByteArray := prog_9_method_11_code
def yX7_nextChange : MethodName := ⟨RX7, "nextChange", "(III)I"⟩
abbrev cX7_value : ByteArray := prog_9_method_12_code
def yX7_value : MethodName := ⟨RX7, "value", "(III)I"⟩
abbrev cX7_rule : ByteArray := prog_9_method_13_code
def yX7_rule : MethodName := ⟨RX7, "rule", "(II)I"⟩
abbrev cX7_call : ByteArray := prog_9_method_14_code
def yX7_call : MethodName := ⟨RX7, "call", "(III)I"⟩
abbrev cX7_shift : ByteArray := prog_9_method_15_code
def yX7_shift : MethodName := ⟨RX7, "shift", "(II)I"⟩
abbrev cX7_masked : ByteArray := prog_9_method_16_code
def yX7_masked : MethodName := ⟨RX7, "masked", "(IIII)I"⟩
abbrev cX7_mask : ByteArray := prog_9_method_17_code
def yX7_mask : MethodName := ⟨RX7, "mask", "(III)I"⟩
abbrev cX7_maskWhile : ByteArray := prog_9_method_18_code
def yX7_maskWhile : MethodName := ⟨RX7, "maskWhile", "(III)I"⟩
abbrev cX7_noMasks : ByteArray := prog_9_method_19_code
def yX7_noMasks : MethodName := ⟨RX7, "noMasks", "()I"⟩
abbrev cX7_agree : ByteArray := prog_9_method_20_code
def yX7_agree : MethodName := ⟨RX7, "agree", "(II)Z"⟩
abbrev cX7_isMasked : ByteArray := prog_9_method_21_code
def yX7_isMasked : MethodName := ⟨RX7, "isMasked", "(II)Z"⟩
abbrev cX7_differs : ByteArray := prog_9_method_22_code
def yX7_differs : MethodName := ⟨RX7, "differs", "(III)Z"⟩
abbrev cX7_least : ByteArray := prog_9_method_23_code
def yX7_least : MethodName := ⟨RX7, "least", "(II)I"⟩
abbrev cX7_next : ByteArray := prog_9_method_24_code
def yX7_next : MethodName := ⟨RX7, "next", "(III)I"⟩
abbrev cX7_spans : ByteArray := prog_9_method_25_code
def yX7_spans : MethodName := ⟨RX7, "spans", "(I)I"⟩
abbrev cX7_found : ByteArray := prog_9_method_26_code
def yX7_found : MethodName := ⟨RX7, "found", "(IIIII)I"⟩
abbrev cX7_differences : ByteArray := prog_9_method_27_code
def yX7_differences : MethodName := ⟨RX7, "differences", "()I"⟩
abbrev cX7_difference : ByteArray := prog_9_method_28_code
def yX7_difference : MethodName := ⟨RX7, "difference", "(II)I"⟩
abbrev cX7_first : ByteArray := prog_9_method_29_code
def yX7_first : MethodName := ⟨RX7, "first", "()I"⟩
abbrev cX7_channel : ByteArray := prog_9_method_30_code
def yX7_channel : MethodName := ⟨RX7, "channel", "(IIIII)I"⟩
abbrev cX7_called : ByteArray := prog_9_method_31_code
def yX7_called : MethodName := ⟨RX7, "called", "(II)I"⟩
abbrev cX7_isEdge : ByteArray := prog_9_method_32_code
def yX7_isEdge : MethodName := ⟨RX7, "isEdge", "(III)Z"⟩
abbrev cX7_acts : ByteArray := prog_9_method_33_code
def yX7_acts : MethodName := ⟨RX7, "acts", "(III)I"⟩
abbrev cX7_act : ByteArray := prog_9_method_34_code
def yX7_act : MethodName := ⟨RX7, "act", "(IIII)I"⟩
abbrev cX7_unlike : ByteArray := prog_9_method_35_code
def yX7_unlike : MethodName := ⟨RX7, "unlike", "(I)I"⟩
abbrev cX7_fits : ByteArray := prog_9_method_36_code
def yX7_fits : MethodName := ⟨RX7, "fits", "(II)Z"⟩
abbrev cX7_fit : ByteArray := prog_9_method_37_code
def yX7_fit : MethodName := ⟨RX7, "fit", "(I)I"⟩
abbrev cX7_gate : ByteArray := prog_9_method_38_code
def yX7_gate : MethodName := ⟨RX7, "gate", "(IIII)I"⟩
abbrev cX7_agreeAt : ByteArray := prog_9_method_39_code
def yX7_agreeAt : MethodName := ⟨RX7, "agreeAt", "(II)Z"⟩
abbrev cX7_edge : ByteArray := prog_9_method_40_code
def yX7_edge : MethodName := ⟨RX7, "edge", "(III)I"⟩
abbrev cX7_inputsAgree : ByteArray := prog_9_method_41_code
def yX7_inputsAgree : MethodName := ⟨RX7, "inputsAgree", "(II)Z"⟩
abbrev cX7_guilty : ByteArray := prog_9_method_42_code
def yX7_guilty : MethodName := ⟨RX7, "guilty", "(I)I"⟩
abbrev cX7_behave : ByteArray := prog_9_method_43_code
def yX7_behave : MethodName := ⟨RX7, "behave", "(II)Z"⟩
abbrev cX7_alike : ByteArray := prog_9_method_44_code
def yX7_alike : MethodName := ⟨RX7, "alike", "(I)I"⟩
abbrev cX7_holds : ByteArray := prog_9_method_45_code
def yX7_holds : MethodName := ⟨RX7, "holds", "(IIIIIIII)I"⟩
abbrev cX7_window : ByteArray := prog_9_method_46_code
def yX7_window : MethodName := ⟨RX7, "window", "(IIIII)I"⟩
abbrev cX7_count : ByteArray := prog_9_method_47_code
def yX7_count : MethodName := ⟨RX7, "count", "(I)I"⟩
def RL : String := "WavePairsLaw"
abbrev cL_law : ByteArray := code
def yL_law : MethodName := ⟨RL, "law", "([I)Z"⟩
abbrev vwCl : List vw_C := [(RX0, TX0, 5), (RX1, TX1, 3), (RX2, TX2, 4), (RX3, TX3, 6), (RX4, TX4, 3), (RX5, TX5, 5), (RX6, TX6, 11), (RX7, TX7, 23)]
end
section
/-! The judgement wV: a method's body over a map from addresses to cells; numbers are Int, put into Int32 by gI. -/
abbrev wM : Type := Nat → Option va_E
abbrev mD : Type := MethodName × ByteArray × Nat × Option FieldType × Nat × Nat
abbrev gG : Type := Launch × va_G × (Nat → ClassId)
def gI (z : Int) : Int32 := Int32.ofInt z
abbrev rng (z : Int) : Prop := -2147483648 ≤ z ∧ z ≤ 2147483647
theorem gI_toInt {z : Int} (h : rng z) : (gI z).toInt = z := by
  unfold gI
  rw [Int32.toInt_ofInt]
  exact Int.bmod_eq_of_le (by simp only [Int32.size]; omega) (by simp only [Int32.size]; omega)
theorem gI_of (x : Int32) : x = gI x.toInt := (Int32.ofInt_toInt x).symm
theorem rng_of (x : Int32) : rng x.toInt := ⟨Int32.le_toInt x, by have := Int32.toInt_lt x; omega⟩
theorem gI_add (x y : Int) : gI x + gI y = gI (x + y) := (Int32.ofInt_add x y).symm
theorem gI_sub (x y : Int) : gI x - gI y = gI (x - y) := (Int32.ofInt_sub x y).symm
theorem gI_mul (x y : Int) : gI x * gI y = gI (x * y) := (Int32.ofInt_mul x y).symm
theorem gI_neg (x : Int) : -gI x = gI (-x) := (Int32.ofInt_neg x).symm
theorem gI_lt {x y : Int} (hx : rng x) (hy : rng y) : gI x < gI y ↔ x < y := by
  rw [Int32.lt_iff_toInt_lt, gI_toInt hx, gI_toInt hy]
theorem gI_le {x y : Int} (hx : rng x) (hy : rng y) : gI x ≤ gI y ↔ x ≤ y := by
  rw [Int32.le_iff_toInt_le, gI_toInt hx, gI_toInt hy]
theorem gI_inj {x y : Int} (hx : rng x) (hy : rng y) : gI x = gI y ↔ x = y := by
  rw [← Int32.toInt_inj, gI_toInt hx, gI_toInt hy]
theorem gI_clamp {x : Int} (h0 : 0 ≤ x) (hx : x ≤ 2147483647) : (gI x).toNatClampNeg = x.toNat := by
  show (gI x).toInt.toNat = _
  rw [gI_toInt ⟨by omega, hx⟩]
theorem gI_in {x : Int} {n : Nat} (h0 : 0 ≤ x) (hn : x < n) (hb : n ≤ 2147483647) : vp_in (gI x) n := by
  rw [vp_in_iff, gI_toInt ⟨by omega, by omega⟩]
  exact ⟨h0, hn⟩
/-- array content: a number function put into cells -/
def gF (f : Nat → Int) : Nat → Int32 := fun j => gI (f j)
def upz (f : Nat → Int) (k : Nat) (x : Int) : Nat → Int := fun j => if j = k then x else f j
theorem gF_upd (f : Nat → Int) (k : Nat) (x : Int) : upd (gF f) k (gI x) = gF (upz f k x) := by
  funext j
  simp only [upd, gF, upz]
  split <;> rfl
def wup (M : wM) (a : Nat) (e : va_E) : wM := fun b => if b = a then some e else M b
def wR (M : wM) (ws : va_W) : Prop := ∀ (a : Nat) (e : va_E), M a = some e ↔ (a, e) ∈ ws
def wW (D : va_G) (A : Nat → Prop) (M : wM) (H : Heap) : Prop := ∃ ws : va_W, va_P D vwCl ws H ∧ va_D A ws ∧ wR M ws
theorem wR.set {M : wM} {ws : va_W} {A : Nat → Prop} {q0 a : Nat} {e0 e1 : va_E} (hR : wR M ws) (hD : va_D A ws) (h0 : ws[q0]? = some (a, e0)) : wR (wup M a e1) (ws.set q0 (a, e1)) := by
  intro b e
  have hlt : q0 < ws.length := (List.getElem?_eq_some_iff.mp h0).1
  constructor
  · intro h
    unfold wup at h
    by_cases hb : b = a
    · subst hb
      rw [if_pos rfl] at h
      cases h
      exact List.mem_of_getElem? (i := q0) (by rw [List.getElem?_set]; simp [hlt])
    · rw [if_neg hb] at h
      obtain ⟨i, hi⟩ := List.getElem?_of_mem ((hR b e).mp h)
      refine List.mem_of_getElem? (i := i) ?_
      rw [List.getElem?_set]
      have : q0 ≠ i := fun hq => by
        subst hq
        rw [h0] at hi
        cases hi
        exact hb rfl
      rw [if_neg this]
      exact hi
  · intro h
    obtain ⟨i, hi⟩ := List.getElem?_of_mem h
    rw [List.getElem?_set] at hi
    unfold wup
    by_cases hq : q0 = i
    · subst hq
      simp only [hlt, if_true] at hi
      cases hi
      rw [if_pos rfl]
    · rw [if_neg hq] at hi
      have hb : b ≠ a := fun hb => by
        subst hb
        exact hq (hD.1 q0 i _ _ h0 hi rfl)
      rw [if_neg hb]
      exact (hR b e).mpr (List.mem_of_getElem? hi)
theorem wR.app {M : wM} {ws : va_W} {A : Nat → Prop} {a : Nat} {e1 : va_E} (hR : wR M ws) (hD : va_D A (ws ++ [(a, e1)])) : M a = none ∧ wR (wup M a e1) (ws ++ [(a, e1)]) := by
  have hn : ∀ e, M a ≠ some e := fun e h => by
    obtain ⟨i, hi⟩ := List.getElem?_of_mem ((hR a e).mp h)
    have hlt : i < ws.length := (List.getElem?_eq_some_iff.mp hi).1
    have := hD.1 i ws.length (a, e) (a, e1) (by rw [List.getElem?_append_left hlt]; exact hi) (by simp) rfl
    omega
  have hM : M a = none := by
    cases h : M a with
    | none => rfl
    | some e => exact absurd h (hn e)
  refine ⟨hM, fun b e => ?_⟩
  unfold wup
  rw [List.mem_append, List.mem_singleton]
  by_cases hb : b = a
  · subst hb
    rw [if_pos rfl]
    constructor
    · intro h
      cases h
      exact Or.inr rfl
    · rintro (h | h)
      · exact absurd ((hR b e).mpr h) (hn e)
      · cases h
        rfl
  · rw [if_neg hb, hR b e]
    constructor
    · exact Or.inl
    · rintro (h | h)
      · exact h
      · cases h
        exact absurd rfl hb
def lw_good : List Cond := lw_tbl.filter goodWord
def is_nest : Cond → Bool
  | .fieldLinkNest _ _ _ _ _ _ => true
  | .methodLinkNest _ _ _ _ => true
  | _ => false
def lw_nest : List Cond := lw_tbl.filter is_nest
def ws_of (q : mD) : List Cond := Cond.code q.1 q.2.1 q.2.2.1 q.2.2.2.1 :: lw_good
def rm_of (q : mD) (mc ms : Nat) : Room := { frames := q.2.2.2.2.1, cells := mc, slots := ms, locals := q.2.2.2.2.2 }
theorem good_all {w : Cond} (h : w ∈ lw_good) : (w.onTables && w.keeps) = true ∨ ∃ ty, w = .arrayClass ty := good_of_word (List.mem_filter.mp h).2
theorem goodIn_ws (q q2 : mD) (h : Cond.code q2.1 q2.2.1 q2.2.2.1 q2.2.2.2.1 ∈ lw_good) : GoodIn (ws_of q) (ws_of q2) := by
  intro w hw
  have hw' : w ∈ lw_good := by
    rcases List.mem_cons.mp hw with rfl | h2
    · exact h
    · exact h2
  exact ⟨List.mem_cons_of_mem _ hw', good_all hw'⟩
def wK (G : gG) (U : State) : Prop := va_K G.2.1 vwCl [(G.2.2 0, .int), (G.2.2 1, .boolean), (G.2.2 2, .object "WavePairs$Row"), (G.2.2 3, .object "WavePairs$Mask"), (G.2.2 4, .object "WavePairs$Channel"), (G.2.2 5, .object "WavePairs$Gate"), (G.2.2 6, .object "WavePairs$Pair")] U ∧ ∀ w ∈ lw_nest, va_Nw w U
theorem wK.warm {G : gG} {s U : State} (hW : s.WarmedH U.vm) (h : wK G s) : wK G U := by
  refine ⟨h.1.moved hW.alike, fun w hw => ?_⟩
  have h2 := (List.mem_filter.mp hw).2
  have h3 := h.2 w hw
  cases w <;> first | exact absurd h2 Bool.false_ne_true | exact va_Nw.warmF hW h3 | exact va_Nw.warmM hW h3
theorem wK.same {G : gG} {s U : State} (hv : s.vm = U.vm) (h : wK G s) : wK G U := by
  refine ⟨h.1.moved (hv ▸ Vm.Alike.refl s.vm), fun w hw => ?_⟩
  have h2 := (List.mem_filter.mp hw).2
  have h3 := h.2 w hw
  cases w <;> first | exact absurd h2 Bool.false_ne_true | exact va_Nw.same rfl hv h3
def wA (M : wM) (sz : Nat) : Nat → Prop := fun a => M a ≠ none ∨ sz ≤ a
def wQ (G : gG) (M : wM) (sz : Nat) (Post : Option Value → wM → Prop) : Array Value → State → Outcome → State → Prop := fun _ st oc t =>
  (∃ (v : Option Value) (M' : wM), oc = .returned v ∧ Post v M' ∧ wW G.2.1 (wA M sz) M' t.heap ∧ ∀ a, M a ≠ none → M' a ≠ none) ∧ va_F (wA M sz) st t
/-- a method's contract over a map of cells -/
def wT (G : gG) (q : mD) (mc ms : Nat) (args : List Value) (M : wM) (Post : Option Value → wM → Prop) : Prop :=
  ∀ sz : Nat, Met G.1 q.1 (ws_of q) (rm_of q mc ms) (va_Pc args (fun U => U.heap.size = sz ∧ wW G.2.1 (fun _ => True) M U.heap ∧ wK G U)) (wQ G M sz Post) mc ms (wA M sz)
def cX (G : gG) (q : mD) (p : Program) (s : State) (m : MethodId) (args : Array Value) (meth : Method) (c : Code) : Prop :=
  p.tables.exec = Jvm.exec ∧ c.code = q.2.1 ∧ c.maxLocals = q.2.2.1 ∧ meth.sig.returnType = q.2.2.2.1 ∧ s.vm.findClass q.1.cls = some m.cls ∧ (∀ w ∈ ws_of q, w.before args s = true) ∧ wK G s ∧ meth.locks = false ∧ meth.name = q.1.name
def wV (G : gG) (q : mD) (mc ms sz : Nat) (M0 : wM) (kc ks : Nat) (pc : Nat) (lv : List (Nat × Value)) (st : List Value) (M : wM) (Post : Option Value → wM → Prop) : Prop :=
  ∀ (p : Program) (e : Env) (s : State) (m : MethodId) (args : Array Value) (below : List Frame) (meth : Method) (c : Code) (H : Heap) (locs : List Loc) (ls : Array Slot),
    cX G q p s m args meth c → s.heap.size = sz → wW G.2.1 (wA M0 sz) M H → (∀ a, M0 a ≠ none → M a ≠ none) → va_S (wA M0 sz) s.heap H locs → lv_has ls q.2.2.1 lv →
    W p G.1 e (rm_of q mc ms) s m args below meth c H locs kc ks (MQ below (wQ G M0 sz Post) args s mc ms (wA M0 sz)) (F0 m pc ls st)
theorem wW.weaken {D : va_G} {A B : Nat → Prop} {M : wM} {H : Heap} (h : wW D A M H) (hAB : ∀ a, M a ≠ none → A a → B a) : wW D B M H := by
  obtain ⟨ws, hP, hD, hR⟩ := h
  refine ⟨ws, hP, hD.weaken (fun k q hk hq => hAB _ ?_ hq), hR⟩
  rw [(hR q.1 q.2).mpr (List.mem_of_getElem? hk)]
  exact fun h => by cases h
theorem wT.intro {G : gG} {q : mD} {mc ms : Nat} {args : List Value} {M : wM} {Post : Option Value → wM → Prop} (hy : plainName q.1.cls = true) (hlen : (lg_sl args).length ≤ q.2.2.1)
    (h : ∀ sz, wV G q mc ms sz M 0 0 0 (lv_args 0 args) [] M Post) : wT G q mc ms args M Post := by
  intro sz
  refine Met.ofW (cc := q.2.1) (maxL := q.2.2.1) (ret := q.2.2.2.1) (ws' := lw_good) hy rfl ?_
  intro p e s m args' below meth c s₁ B hml hv
  obtain ⟨rfl, hsz, hW, hK⟩ := hv
  have hts := atoms_spec (ws := ws_of q) B.pre
  have hown : s.vm.findClass q.1.cls = some m.cls := findClass_of_methodNamed B.named
  have hl := lv_entry args (n := q.2.2.1) hlen
  rw [lg_entry_eq]
  refine h sz p e s m _ below meth c s.heap [] _ ⟨B.exec, B.bytes, hml, B.returns, hown, hts, hK, B.notSynchronized, (name_of_methodNamed B.named B.method).1⟩ hsz ?_ (fun _ h => h) va_S.rf hl
  exact hW.weaken (fun a ha _ => Or.inl ha)
end
section
section WRULES
variable {G : gG} {q : mD} {mc ms sz kc ks pc : Nat} {M0 M : wM} {lv : List (Nat × Value)} {st rest : List Value} {Post : Option Value → wM → Prop}
def vld : List (Nat × Value) → Nat → Option Value
  | [], _ => none
  | (j, v) :: r, i => match Nat.beq j i with
    | true => some v
    | false => vld r i
def vst (i : Nat) (v : Value) (lv : List (Nat × Value)) : List (Nat × Value) := (i, v) :: lv.filter (fun q => !(q.1 == i) && !(q.1 + 1 == i && q.2.category == 2))
def vsub (lv : List (Nat × Value)) : List (Nat × Value) → Prop
  | [] => True
  | (i, v) :: r => vld lv i = some v ∧ vsub lv r
theorem vld_mem {lv : List (Nat × Value)} {i : Nat} {v : Value} (h : vld lv i = some v) : (i, v) ∈ lv := by
  induction lv with
  | nil => cases h
  | cons a r ih =>
    obtain ⟨j, w⟩ := a
    unfold vld at h
    split at h
    · rename_i hb
      cases h
      rw [Nat.eq_of_beq_eq_true hb]
      exact List.mem_cons_self
    · exact List.mem_cons_of_mem _ (ih h)
theorem vld_at {ls : Array Slot} {n i : Nat} {lv : List (Nat × Value)} {v : Value} (hl : lv_has ls n lv) (h : vld lv i = some v) : ls[i]? = some (.val v) := hl.2.2 _ (vld_mem h)
theorem vsub_has {ls : Array Slot} {n : Nat} {lv lv' : List (Nat × Value)} (hl : lv_has ls n lv) (h : vsub lv lv') : lv_has ls n lv' := by
  refine ⟨hl.1, hl.2.1, ?_⟩
  induction lv' with
  | nil => intro q hq; cases hq
  | cons a r ih =>
    intro q hq
    rcases List.mem_cons.mp hq with rfl | h2
    · exact vld_at hl h.1
    · exact ih h.2 q h2
theorem wV.locs {lv' : List (Nat × Value)} (h : vsub lv lv') (k : wV G q mc ms sz M0 kc ks pc lv' st M Post) : wV G q mc ms sz M0 kc ks pc lv st M Post :=
  fun p e s m args below meth c H locs ls C hsz hW hm hS hl => k p e s m args below meth c H locs ls C hsz hW hm hS (vsub_has hl h)
theorem wV.stk {st' : List Value} (h : st = st') (k : wV G q mc ms sz M0 kc ks pc lv st' M Post) : wV G q mc ms sz M0 kc ks pc lv st M Post := h ▸ k
theorem wV.map {M' : wM} (h : M = M') (k : wV G q mc ms sz M0 kc ks pc lv st M' Post) : wV G q mc ms sz M0 kc ks pc lv st M Post := h ▸ k
theorem wV.post {Post' : Option Value → wM → Prop} (h : ∀ v M', Post' v M' → Post v M') (k : wV G q mc ms sz M0 kc ks pc lv st M Post') : wV G q mc ms sz M0 kc ks pc lv st M Post := by
  intro p e s m args below meth c H locs ls C hsz hW hm hS hl T hT X
  obtain ⟨t, a, o, b1, b2, ⟨⟨v, M', c1, c2, c3⟩, c4⟩, b4⟩ := k p e s m args below meth c H locs ls C hsz hW hm hS hl T hT X
  exact ⟨t, a, o, b1, b2, ⟨⟨v, M', c1, h v M' c2, c3⟩, c4⟩, b4⟩
theorem v_iconst {n : Int} (hd : decode q.2.1 pc = .ok (.iconst n, 1)) (k : wV G q mc ms sz M0 kc ks (pc + 1) lv (.int (gI n) :: st) M Post) : wV G q mc ms sz M0 kc ks pc lv (st) M Post := by
  intro p e s m args below meth c H locs ls C hsz hW hm hS hl
  refine lv_iconst (v := gI n) C.1 C.2.1 hd rfl ?_
  exact k p e s m args below meth c H locs ls C hsz hW hm hS hl
theorem v_bipush {n : Int} (hd : decode q.2.1 pc = .ok (.bipush n, 2)) (h : (Int8.ofInt n).toInt32 = gI n) (k : wV G q mc ms sz M0 kc ks (pc + 2) lv (.int (gI n) :: st) M Post) : wV G q mc ms sz M0 kc ks pc lv (st) M Post := by
  intro p e s m args below meth c H locs ls C hsz hW hm hS hl
  refine lv_bipush (v := gI n) C.1 C.2.1 hd h ?_
  exact k p e s m args below meth c H locs ls C hsz hW hm hS hl
theorem v_sipush {n : Int} (hd : decode q.2.1 pc = .ok (.sipush n, 3)) (h : (Int16.ofInt n).toInt32 = gI n) (k : wV G q mc ms sz M0 kc ks (pc + 3) lv (.int (gI n) :: st) M Post) : wV G q mc ms sz M0 kc ks pc lv (st) M Post := by
  intro p e s m args below meth c H locs ls C hsz hW hm hS hl
  refine lv_sipush (v := gI n) C.1 C.2.1 hd h ?_
  exact k p e s m args below meth c H locs ls C hsz hW hm hS hl
theorem v_iloadn {i : Fin 4} {x : Int32} (hd : decode q.2.1 pc = .ok (.iload_n i, 1)) (h : vld lv i = some (.int x)) (k : wV G q mc ms sz M0 kc ks (pc + 1) lv (.int x :: st) M Post) : wV G q mc ms sz M0 kc ks pc lv (st) M Post := by
  intro p e s m args below meth c H locs ls C hsz hW hm hS hl
  refine lv_iload_n C.1 C.2.1 hd rfl (vld_at hl h) ?_
  exact k p e s m args below meth c H locs ls C hsz hW hm hS hl
theorem v_iload {i : Nat} {x : Int32} (hd : decode q.2.1 pc = .ok (.iload i, 2)) (h : vld lv i = some (.int x)) (k : wV G q mc ms sz M0 kc ks (pc + 2) lv (.int x :: st) M Post) : wV G q mc ms sz M0 kc ks pc lv (st) M Post := by
  intro p e s m args below meth c H locs ls C hsz hW hm hS hl
  refine lv_iload C.1 C.2.1 hd (vld_at hl h) ?_
  exact k p e s m args below meth c H locs ls C hsz hW hm hS hl
theorem v_lloadn {i : Fin 4} {x : Int64} (hd : decode q.2.1 pc = .ok (.lload_n i, 1)) (h : vld lv i = some (.long x)) (k : wV G q mc ms sz M0 kc ks (pc + 1) lv (.long x :: st) M Post) : wV G q mc ms sz M0 kc ks pc lv (st) M Post := by
  intro p e s m args below meth c H locs ls C hsz hW hm hS hl
  refine lv_lload_n C.1 C.2.1 hd rfl (vld_at hl h) ?_
  exact k p e s m args below meth c H locs ls C hsz hW hm hS hl
theorem v_lload {i : Nat} {x : Int64} (hd : decode q.2.1 pc = .ok (.lload i, 2)) (h : vld lv i = some (.long x)) (k : wV G q mc ms sz M0 kc ks (pc + 2) lv (.long x :: st) M Post) : wV G q mc ms sz M0 kc ks pc lv (st) M Post := by
  intro p e s m args below meth c H locs ls C hsz hW hm hS hl
  refine lv_lload C.1 C.2.1 hd (vld_at hl h) ?_
  exact k p e s m args below meth c H locs ls C hsz hW hm hS hl
theorem v_aloadn {i : Fin 4} {x : Nat} (hd : decode q.2.1 pc = .ok (.aload_n i, 1)) (h : vld lv i = some (.ref x)) (k : wV G q mc ms sz M0 kc ks (pc + 1) lv (.ref x :: st) M Post) : wV G q mc ms sz M0 kc ks pc lv (st) M Post := by
  intro p e s m args below meth c H locs ls C hsz hW hm hS hl
  refine lv_aload_n C.1 C.2.1 hd rfl (vld_at hl h) ?_
  exact k p e s m args below meth c H locs ls C hsz hW hm hS hl
theorem v_aload {i : Nat} {x : Nat} (hd : decode q.2.1 pc = .ok (.aload i, 2)) (h : vld lv i = some (.ref x)) (k : wV G q mc ms sz M0 kc ks (pc + 2) lv (.ref x :: st) M Post) : wV G q mc ms sz M0 kc ks pc lv (st) M Post := by
  intro p e s m args below meth c H locs ls C hsz hW hm hS hl
  refine lv_aload C.1 C.2.1 hd (vld_at hl h) ?_
  exact k p e s m args below meth c H locs ls C hsz hW hm hS hl
theorem v_iadd {x y : Int} (hd : decode q.2.1 pc = .ok (.iadd, 1)) (k : wV G q mc ms sz M0 kc ks (pc + 1) lv (.int (gI (x + y)) :: st) M Post) : wV G q mc ms sz M0 kc ks pc lv (.int (gI y) :: .int (gI x) :: st) M Post := by
  intro p e s m args below meth c H locs ls C hsz hW hm hS hl
  refine lv_iadd C.1 C.2.1 hd ?_
  rw [gI_add]
  exact k p e s m args below meth c H locs ls C hsz hW hm hS hl
theorem v_isub {x y : Int} (hd : decode q.2.1 pc = .ok (.isub, 1)) (k : wV G q mc ms sz M0 kc ks (pc + 1) lv (.int (gI (x - y)) :: st) M Post) : wV G q mc ms sz M0 kc ks pc lv (.int (gI y) :: .int (gI x) :: st) M Post := by
  intro p e s m args below meth c H locs ls C hsz hW hm hS hl
  refine lv_isub C.1 C.2.1 hd ?_
  rw [gI_sub]
  exact k p e s m args below meth c H locs ls C hsz hW hm hS hl
theorem v_imul {x y : Int} (hd : decode q.2.1 pc = .ok (.imul, 1)) (k : wV G q mc ms sz M0 kc ks (pc + 1) lv (.int (gI (x * y)) :: st) M Post) : wV G q mc ms sz M0 kc ks pc lv (.int (gI y) :: .int (gI x) :: st) M Post := by
  intro p e s m args below meth c H locs ls C hsz hW hm hS hl
  refine lv_imul C.1 C.2.1 hd ?_
  rw [gI_mul]
  exact k p e s m args below meth c H locs ls C hsz hW hm hS hl
theorem v_ineg {x : Int} (hd : decode q.2.1 pc = .ok (.ineg, 1)) (k : wV G q mc ms sz M0 kc ks (pc + 1) lv (.int (gI (-x)) :: st) M Post) : wV G q mc ms sz M0 kc ks pc lv (.int (gI x) :: st) M Post := by
  intro p e s m args below meth c H locs ls C hsz hW hm hS hl
  refine lv_ineg C.1 C.2.1 hd ?_
  rw [gI_neg]
  exact k p e s m args below meth c H locs ls C hsz hW hm hS hl
theorem v_iand {x y : Int32} (hd : decode q.2.1 pc = .ok (.iand, 1)) (k : wV G q mc ms sz M0 kc ks (pc + 1) lv (.int (x &&& y) :: st) M Post) : wV G q mc ms sz M0 kc ks pc lv (.int y :: .int x :: st) M Post := by
  intro p e s m args below meth c H locs ls C hsz hW hm hS hl
  refine lv_iand C.1 C.2.1 hd ?_
  exact k p e s m args below meth c H locs ls C hsz hW hm hS hl
theorem v_ior {x y : Int32} (hd : decode q.2.1 pc = .ok (.ior, 1)) (k : wV G q mc ms sz M0 kc ks (pc + 1) lv (.int (x ||| y) :: st) M Post) : wV G q mc ms sz M0 kc ks pc lv (.int y :: .int x :: st) M Post := by
  intro p e s m args below meth c H locs ls C hsz hW hm hS hl
  refine lv_ior C.1 C.2.1 hd ?_
  exact k p e s m args below meth c H locs ls C hsz hW hm hS hl
theorem v_ishl {x y : Int32} (hd : decode q.2.1 pc = .ok (.ishl, 1)) (k : wV G q mc ms sz M0 kc ks (pc + 1) lv (.int (x <<< (y &&& 31)) :: st) M Post) : wV G q mc ms sz M0 kc ks pc lv (.int y :: .int x :: st) M Post := by
  intro p e s m args below meth c H locs ls C hsz hW hm hS hl
  refine lv_ishl C.1 C.2.1 hd ?_
  exact k p e s m args below meth c H locs ls C hsz hW hm hS hl
theorem v_ishr {x y : Int32} (hd : decode q.2.1 pc = .ok (.ishr, 1)) (k : wV G q mc ms sz M0 kc ks (pc + 1) lv (.int (x >>> (y &&& 31)) :: st) M Post) : wV G q mc ms sz M0 kc ks pc lv (.int y :: .int x :: st) M Post := by
  intro p e s m args below meth c H locs ls C hsz hW hm hS hl
  refine lv_ishr C.1 C.2.1 hd ?_
  exact k p e s m args below meth c H locs ls C hsz hW hm hS hl
theorem v_iushr {x y : Int32} (hd : decode q.2.1 pc = .ok (.iushr, 1)) (k : wV G q mc ms sz M0 kc ks (pc + 1) lv (.int (x.toUInt32 >>> (y.toUInt32 &&& Int32.toUInt32 31)).toInt32 :: st) M Post) : wV G q mc ms sz M0 kc ks pc lv (.int y :: .int x :: st) M Post := by
  intro p e s m args below meth c H locs ls C hsz hW hm hS hl
  refine lv_iushr C.1 C.2.1 hd rfl ?_
  exact k p e s m args below meth c H locs ls C hsz hW hm hS hl
theorem v_lushr {x : Int64} {y : Int32} (hd : decode q.2.1 pc = .ok (.lushr, 1)) (k : wV G q mc ms sz M0 kc ks (pc + 1) lv (.long (x.toUInt64 >>> (y.toInt64.toUInt64 &&& Int64.toUInt64 63)).toInt64 :: st) M Post) : wV G q mc ms sz M0 kc ks pc lv (.int y :: .long x :: st) M Post := by
  intro p e s m args below meth c H locs ls C hsz hW hm hS hl
  refine lv_lushr C.1 C.2.1 hd rfl ?_
  exact k p e s m args below meth c H locs ls C hsz hW hm hS hl
theorem v_lshr {x : Int64} {y : Int32} (hd : decode q.2.1 pc = .ok (.lshr, 1)) (k : wV G q mc ms sz M0 kc ks (pc + 1) lv (.long (x >>> (y.toInt64 &&& 63)) :: st) M Post) : wV G q mc ms sz M0 kc ks pc lv (.int y :: .long x :: st) M Post := by
  intro p e s m args below meth c H locs ls C hsz hW hm hS hl
  refine lv_lshr C.1 C.2.1 hd rfl ?_
  exact k p e s m args below meth c H locs ls C hsz hW hm hS hl
theorem v_lshl {x : Int64} {y : Int32} (hd : decode q.2.1 pc = .ok (.lshl, 1)) (k : wV G q mc ms sz M0 kc ks (pc + 1) lv (.long (x <<< (y.toInt64 &&& 63)) :: st) M Post) : wV G q mc ms sz M0 kc ks pc lv (.int y :: .long x :: st) M Post := by
  intro p e s m args below meth c H locs ls C hsz hW hm hS hl
  refine lv_lshl C.1 C.2.1 hd rfl ?_
  exact k p e s m args below meth c H locs ls C hsz hW hm hS hl
theorem v_land {x y : Int64} (hd : decode q.2.1 pc = .ok (.land, 1)) (k : wV G q mc ms sz M0 kc ks (pc + 1) lv (.long (x &&& y) :: st) M Post) : wV G q mc ms sz M0 kc ks pc lv (.long y :: .long x :: st) M Post := by
  intro p e s m args below meth c H locs ls C hsz hW hm hS hl
  refine lv_land C.1 C.2.1 hd ?_
  exact k p e s m args below meth c H locs ls C hsz hW hm hS hl
theorem v_lor {x y : Int64} (hd : decode q.2.1 pc = .ok (.lor, 1)) (k : wV G q mc ms sz M0 kc ks (pc + 1) lv (.long (x ||| y) :: st) M Post) : wV G q mc ms sz M0 kc ks pc lv (.long y :: .long x :: st) M Post := by
  intro p e s m args below meth c H locs ls C hsz hW hm hS hl
  refine lv_lor C.1 C.2.1 hd ?_
  exact k p e s m args below meth c H locs ls C hsz hW hm hS hl
theorem v_i2l {x : Int32} (hd : decode q.2.1 pc = .ok (.i2l, 1)) (k : wV G q mc ms sz M0 kc ks (pc + 1) lv (.long x.toInt64 :: st) M Post) : wV G q mc ms sz M0 kc ks pc lv (.int x :: st) M Post := by
  intro p e s m args below meth c H locs ls C hsz hW hm hS hl
  refine lv_i2l C.1 C.2.1 hd rfl ?_
  exact k p e s m args below meth c H locs ls C hsz hW hm hS hl
theorem v_l2i {x : Int64} (hd : decode q.2.1 pc = .ok (.l2i, 1)) (k : wV G q mc ms sz M0 kc ks (pc + 1) lv (.int x.toInt32 :: st) M Post) : wV G q mc ms sz M0 kc ks pc lv (.long x :: st) M Post := by
  intro p e s m args below meth c H locs ls C hsz hW hm hS hl
  refine lv_l2i C.1 C.2.1 hd rfl ?_
  exact k p e s m args below meth c H locs ls C hsz hW hm hS hl
theorem v_dup {v : Value} (hd : decode q.2.1 pc = .ok (.dup, 1)) (h : v.category = 1) (k : wV G q mc ms sz M0 kc ks (pc + 1) lv (v :: v :: st) M Post) : wV G q mc ms sz M0 kc ks pc lv (v :: st) M Post := by
  intro p e s m args below meth c H locs ls C hsz hW hm hS hl
  refine lv_dup C.1 C.2.1 hd h ?_
  exact k p e s m args below meth c H locs ls C hsz hW hm hS hl
theorem v_pop {v : Value} (hd : decode q.2.1 pc = .ok (.pop, 1)) (h : v.category = 1) (k : wV G q mc ms sz M0 kc ks (pc + 1) lv (st) M Post) : wV G q mc ms sz M0 kc ks pc lv (v :: st) M Post := by
  intro p e s m args below meth c H locs ls C hsz hW hm hS hl
  refine lv_pop C.1 C.2.1 hd h ?_
  exact k p e s m args below meth c H locs ls C hsz hW hm hS hl
theorem v_dup2 {v w : Value} (hd : decode q.2.1 pc = .ok (.dup2, 1)) (h : v.category = 1) (h2 : w.category = 1) (k : wV G q mc ms sz M0 kc ks (pc + 1) lv (v :: w :: v :: w :: st) M Post) : wV G q mc ms sz M0 kc ks pc lv (v :: w :: st) M Post := by
  intro p e s m args below meth c H locs ls C hsz hW hm hS hl
  refine lv_dup2_11 C.1 C.2.1 hd h h2 ?_
  exact k p e s m args below meth c H locs ls C hsz hW hm hS hl
theorem v_idiv2 {x : Int} (hd : decode q.2.1 pc = .ok (.idiv, 1)) (h0 : 0 ≤ x) (h1 : x ≤ 2147483647) (k : wV G q mc ms sz M0 kc ks (pc + 1) lv (.int (gI (x / 2)) :: st) M Post) : wV G q mc ms sz M0 kc ks pc lv (.int (gI 2) :: .int (gI x) :: st) M Post := by
  intro p e s m args below meth c H locs ls C hsz hW hm hS hl
  refine lv_idiv C.1 C.2.1 hd (by decide) ?_
  rw [show gI x / gI 2 = gI (x / 2) from by
    apply Int32.toInt_inj.mp
    rw [Int32.toInt_div_of_ne_right _ _ (by decide), gI_toInt ⟨by omega, h1⟩, gI_toInt (z := x / 2) ⟨by omega, by omega⟩, show (gI 2).toInt = 2 from by decide, Int.tdiv_eq_ediv_of_nonneg h0]]
  exact k p e s m args below meth c H locs ls C hsz hW hm hS hl
theorem v_istoren {i : Fin 4} {x : Int32} (hd : decode q.2.1 pc = .ok (.istore_n i, 1)) (hi : i.val < q.2.2.1) (k : wV G q mc ms sz M0 kc ks (pc + 1) (vst i.val (.int x) lv) st M Post) : wV G q mc ms sz M0 kc ks pc lv (.int x :: st) M Post := by
  intro p e s m args below meth c H locs ls C hsz hW hm hS hl
  exact lv_istore_n C.1 C.2.1 hd rfl hl hi rfl (fun ls' hl' => k p e s m args below meth c H locs ls' C hsz hW hm hS hl')
theorem v_istore {i : Nat} {x : Int32} (hd : decode q.2.1 pc = .ok (.istore i, 2)) (hi : i < q.2.2.1) (k : wV G q mc ms sz M0 kc ks (pc + 2) (vst i (.int x) lv) st M Post) : wV G q mc ms sz M0 kc ks pc lv (.int x :: st) M Post := by
  intro p e s m args below meth c H locs ls C hsz hW hm hS hl
  exact lv_istore C.1 C.2.1 hd hl hi rfl (fun ls' hl' => k p e s m args below meth c H locs ls' C hsz hW hm hS hl')
theorem v_astoren {i : Fin 4} {x : Nat} (hd : decode q.2.1 pc = .ok (.astore_n i, 1)) (hi : i.val < q.2.2.1) (k : wV G q mc ms sz M0 kc ks (pc + 1) (vst i.val (.ref x) lv) st M Post) : wV G q mc ms sz M0 kc ks pc lv (.ref x :: st) M Post := by
  intro p e s m args below meth c H locs ls C hsz hW hm hS hl
  exact lv_astore_n C.1 C.2.1 hd rfl hl hi rfl (fun ls' hl' => k p e s m args below meth c H locs ls' C hsz hW hm hS hl')
theorem v_astore {i : Nat} {x : Nat} (hd : decode q.2.1 pc = .ok (.astore i, 2)) (hi : i < q.2.2.1) (k : wV G q mc ms sz M0 kc ks (pc + 2) (vst i (.ref x) lv) st M Post) : wV G q mc ms sz M0 kc ks pc lv (.ref x :: st) M Post := by
  intro p e s m args below meth c H locs ls C hsz hW hm hS hl
  exact lv_astore C.1 C.2.1 hd hl hi rfl (fun ls' hl' => k p e s m args below meth c H locs ls' C hsz hW hm hS hl')
theorem v_iinc {i : Nat} {n : Int} {x : Int} (hd : decode q.2.1 pc = .ok (.iinc i n, 3)) (h : vld lv i = some (.int (gI x))) (hi : i < q.2.2.1) (k : wV G q mc ms sz M0 kc ks (pc + 3) (vst i (.int (gI (x + n))) lv) st M Post) : wV G q mc ms sz M0 kc ks pc lv st M Post := by
  intro p e s m args below meth c H locs ls C hsz hW hm hS hl
  obtain ⟨j, hj⟩ := List.getElem?_of_mem (vld_mem h)
  exact lv_iinc (v := gI (x + n)) C.1 C.2.1 hd hl hj (gI_add x n) hi rfl (fun ls' hl' => k p e s m args below meth c H locs ls' C hsz hW hm hS hl')
theorem v_goto {off : Int} (tgt : Nat) (hd : decode q.2.1 pc = .ok (.goto off, 3)) (ht : (pc : Int) + off = (tgt : Int)) (k : wV G q mc ms sz M0 kc ks tgt lv st M Post) : wV G q mc ms sz M0 kc ks pc lv st M Post := by
  intro p e s m args below meth c H locs ls C hsz hW hm hS hl
  refine lv_goto C.1 C.2.1 hd ht ?_
  exact k p e s m args below meth c H locs ls C hsz hW hm hS hl
theorem v_icmp_eq {x y : Int} {off : Int} (tgt : Nat) (hd : decode q.2.1 pc = .ok (.if_icmp .eq off, 3)) (ht : (pc : Int) + off = (tgt : Int)) (hx : rng x) (hy : rng y) (k : x = y → wV G q mc ms sz M0 kc ks tgt lv st M Post) (k2 : x ≠ y → wV G q mc ms sz M0 kc ks (pc + 3) lv st M Post) : wV G q mc ms sz M0 kc ks pc lv (.int (gI y) :: .int (gI x) :: st) M Post := by
  intro p e s m args below meth c H locs ls C hsz hW hm hS hl
  have ilt : ∀ {a b : Int}, rng a → rng b → (gI a < gI b ↔ a < b) := gI_lt
  have ile : ∀ {a b : Int}, rng a → rng b → (gI a ≤ gI b ↔ a ≤ b) := gI_le
  refine lv_icmp_eq C.1 C.2.1 hd ht (fun h => k ?_ p e s m args below meth c H locs ls C hsz hW hm hS hl) (fun h => k2 ?_ p e s m args below meth c H locs ls C hsz hW hm hS hl)
  all_goals (first | (simp only [gI_inj hx hy, gI_inj hy hx, gI_lt hx hy, gI_lt hy hx, gI_le hx hy, gI_le hy hx, ne_eq, ge_iff_le, gt_iff_lt] at h ⊢; first | exact h | omega) )
theorem v_if_eq {x : Int} {off : Int} (tgt : Nat) (hd : decode q.2.1 pc = .ok (.ifCond .eq off, 3)) (ht : (pc : Int) + off = (tgt : Int)) (hx : rng x) (k : x = 0 → wV G q mc ms sz M0 kc ks tgt lv st M Post) (k2 : x ≠ 0 → wV G q mc ms sz M0 kc ks (pc + 3) lv st M Post) : wV G q mc ms sz M0 kc ks pc lv (.int (gI x) :: st) M Post := by
  intro p e s m args below meth c H locs ls C hsz hW hm hS hl
  have hy : rng 0 := ⟨by omega, by omega⟩
  have h0 : (0 : Int32) = gI 0 := rfl
  refine lv_if_eq C.1 C.2.1 hd ht (fun h => k ?_ p e s m args below meth c H locs ls C hsz hW hm hS hl) (fun h => k2 ?_ p e s m args below meth c H locs ls C hsz hW hm hS hl)
  all_goals (rw [h0] at h; first | (simp only [gI_inj hx hy, gI_inj hy hx, gI_lt hx hy, gI_lt hy hx, gI_le hx hy, gI_le hy hx, ne_eq, ge_iff_le, gt_iff_lt] at h ⊢; first | exact h | omega) )
theorem v_icmp_ne {x y : Int} {off : Int} (tgt : Nat) (hd : decode q.2.1 pc = .ok (.if_icmp .ne off, 3)) (ht : (pc : Int) + off = (tgt : Int)) (hx : rng x) (hy : rng y) (k : x ≠ y → wV G q mc ms sz M0 kc ks tgt lv st M Post) (k2 : x = y → wV G q mc ms sz M0 kc ks (pc + 3) lv st M Post) : wV G q mc ms sz M0 kc ks pc lv (.int (gI y) :: .int (gI x) :: st) M Post := by
  intro p e s m args below meth c H locs ls C hsz hW hm hS hl
  have ilt : ∀ {a b : Int}, rng a → rng b → (gI a < gI b ↔ a < b) := gI_lt
  have ile : ∀ {a b : Int}, rng a → rng b → (gI a ≤ gI b ↔ a ≤ b) := gI_le
  refine lv_icmp_ne C.1 C.2.1 hd ht (fun h => k ?_ p e s m args below meth c H locs ls C hsz hW hm hS hl) (fun h => k2 ?_ p e s m args below meth c H locs ls C hsz hW hm hS hl)
  all_goals (first | (simp only [gI_inj hx hy, gI_inj hy hx, gI_lt hx hy, gI_lt hy hx, gI_le hx hy, gI_le hy hx, ne_eq, ge_iff_le, gt_iff_lt] at h ⊢; first | exact h | omega) )
theorem v_if_ne {x : Int} {off : Int} (tgt : Nat) (hd : decode q.2.1 pc = .ok (.ifCond .ne off, 3)) (ht : (pc : Int) + off = (tgt : Int)) (hx : rng x) (k : x ≠ 0 → wV G q mc ms sz M0 kc ks tgt lv st M Post) (k2 : x = 0 → wV G q mc ms sz M0 kc ks (pc + 3) lv st M Post) : wV G q mc ms sz M0 kc ks pc lv (.int (gI x) :: st) M Post := by
  intro p e s m args below meth c H locs ls C hsz hW hm hS hl
  have hy : rng 0 := ⟨by omega, by omega⟩
  have h0 : (0 : Int32) = gI 0 := rfl
  refine lv_if_ne C.1 C.2.1 hd ht (fun h => k ?_ p e s m args below meth c H locs ls C hsz hW hm hS hl) (fun h => k2 ?_ p e s m args below meth c H locs ls C hsz hW hm hS hl)
  all_goals (rw [h0] at h; first | (simp only [gI_inj hx hy, gI_inj hy hx, gI_lt hx hy, gI_lt hy hx, gI_le hx hy, gI_le hy hx, ne_eq, ge_iff_le, gt_iff_lt] at h ⊢; first | exact h | omega) )
theorem v_icmp_lt {x y : Int} {off : Int} (tgt : Nat) (hd : decode q.2.1 pc = .ok (.if_icmp .lt off, 3)) (ht : (pc : Int) + off = (tgt : Int)) (hx : rng x) (hy : rng y) (k : x < y → wV G q mc ms sz M0 kc ks tgt lv st M Post) (k2 : y ≤ x → wV G q mc ms sz M0 kc ks (pc + 3) lv st M Post) : wV G q mc ms sz M0 kc ks pc lv (.int (gI y) :: .int (gI x) :: st) M Post := by
  intro p e s m args below meth c H locs ls C hsz hW hm hS hl
  have ilt : ∀ {a b : Int}, rng a → rng b → (gI a < gI b ↔ a < b) := gI_lt
  have ile : ∀ {a b : Int}, rng a → rng b → (gI a ≤ gI b ↔ a ≤ b) := gI_le
  refine lv_icmp_lt C.1 C.2.1 hd ht (fun h => k ?_ p e s m args below meth c H locs ls C hsz hW hm hS hl) (fun h => k2 ?_ p e s m args below meth c H locs ls C hsz hW hm hS hl)
  all_goals (first | (simp only [gI_inj hx hy, gI_inj hy hx, gI_lt hx hy, gI_lt hy hx, gI_le hx hy, gI_le hy hx, ne_eq, ge_iff_le, gt_iff_lt] at h ⊢; first | exact h | omega) )
theorem v_if_lt {x : Int} {off : Int} (tgt : Nat) (hd : decode q.2.1 pc = .ok (.ifCond .lt off, 3)) (ht : (pc : Int) + off = (tgt : Int)) (hx : rng x) (k : x < 0 → wV G q mc ms sz M0 kc ks tgt lv st M Post) (k2 : 0 ≤ x → wV G q mc ms sz M0 kc ks (pc + 3) lv st M Post) : wV G q mc ms sz M0 kc ks pc lv (.int (gI x) :: st) M Post := by
  intro p e s m args below meth c H locs ls C hsz hW hm hS hl
  have hy : rng 0 := ⟨by omega, by omega⟩
  have h0 : (0 : Int32) = gI 0 := rfl
  refine lv_if_lt C.1 C.2.1 hd ht (fun h => k ?_ p e s m args below meth c H locs ls C hsz hW hm hS hl) (fun h => k2 ?_ p e s m args below meth c H locs ls C hsz hW hm hS hl)
  all_goals (rw [h0] at h; first | (simp only [gI_inj hx hy, gI_inj hy hx, gI_lt hx hy, gI_lt hy hx, gI_le hx hy, gI_le hy hx, ne_eq, ge_iff_le, gt_iff_lt] at h ⊢; first | exact h | omega) )
theorem v_icmp_ge {x y : Int} {off : Int} (tgt : Nat) (hd : decode q.2.1 pc = .ok (.if_icmp .ge off, 3)) (ht : (pc : Int) + off = (tgt : Int)) (hx : rng x) (hy : rng y) (k : y ≤ x → wV G q mc ms sz M0 kc ks tgt lv st M Post) (k2 : x < y → wV G q mc ms sz M0 kc ks (pc + 3) lv st M Post) : wV G q mc ms sz M0 kc ks pc lv (.int (gI y) :: .int (gI x) :: st) M Post := by
  intro p e s m args below meth c H locs ls C hsz hW hm hS hl
  have ilt : ∀ {a b : Int}, rng a → rng b → (gI a < gI b ↔ a < b) := gI_lt
  have ile : ∀ {a b : Int}, rng a → rng b → (gI a ≤ gI b ↔ a ≤ b) := gI_le
  refine lv_icmp_ge C.1 C.2.1 hd ht (fun h => k ?_ p e s m args below meth c H locs ls C hsz hW hm hS hl) (fun h => k2 ?_ p e s m args below meth c H locs ls C hsz hW hm hS hl)
  all_goals (first | (simp only [gI_inj hx hy, gI_inj hy hx, gI_lt hx hy, gI_lt hy hx, gI_le hx hy, gI_le hy hx, ne_eq, ge_iff_le, gt_iff_lt] at h ⊢; first | exact h | omega) )
theorem v_if_ge {x : Int} {off : Int} (tgt : Nat) (hd : decode q.2.1 pc = .ok (.ifCond .ge off, 3)) (ht : (pc : Int) + off = (tgt : Int)) (hx : rng x) (k : 0 ≤ x → wV G q mc ms sz M0 kc ks tgt lv st M Post) (k2 : x < 0 → wV G q mc ms sz M0 kc ks (pc + 3) lv st M Post) : wV G q mc ms sz M0 kc ks pc lv (.int (gI x) :: st) M Post := by
  intro p e s m args below meth c H locs ls C hsz hW hm hS hl
  have hy : rng 0 := ⟨by omega, by omega⟩
  have h0 : (0 : Int32) = gI 0 := rfl
  refine lv_if_ge C.1 C.2.1 hd ht (fun h => k ?_ p e s m args below meth c H locs ls C hsz hW hm hS hl) (fun h => k2 ?_ p e s m args below meth c H locs ls C hsz hW hm hS hl)
  all_goals (rw [h0] at h; first | (simp only [gI_inj hx hy, gI_inj hy hx, gI_lt hx hy, gI_lt hy hx, gI_le hx hy, gI_le hy hx, ne_eq, ge_iff_le, gt_iff_lt] at h ⊢; first | exact h | omega) )
theorem v_icmp_gt {x y : Int} {off : Int} (tgt : Nat) (hd : decode q.2.1 pc = .ok (.if_icmp .gt off, 3)) (ht : (pc : Int) + off = (tgt : Int)) (hx : rng x) (hy : rng y) (k : y < x → wV G q mc ms sz M0 kc ks tgt lv st M Post) (k2 : x ≤ y → wV G q mc ms sz M0 kc ks (pc + 3) lv st M Post) : wV G q mc ms sz M0 kc ks pc lv (.int (gI y) :: .int (gI x) :: st) M Post := by
  intro p e s m args below meth c H locs ls C hsz hW hm hS hl
  have ilt : ∀ {a b : Int}, rng a → rng b → (gI a < gI b ↔ a < b) := gI_lt
  have ile : ∀ {a b : Int}, rng a → rng b → (gI a ≤ gI b ↔ a ≤ b) := gI_le
  refine lv_icmp_gt C.1 C.2.1 hd ht (fun h => k ?_ p e s m args below meth c H locs ls C hsz hW hm hS hl) (fun h => k2 ?_ p e s m args below meth c H locs ls C hsz hW hm hS hl)
  all_goals (first | (simp only [gI_inj hx hy, gI_inj hy hx, gI_lt hx hy, gI_lt hy hx, gI_le hx hy, gI_le hy hx, ne_eq, ge_iff_le, gt_iff_lt] at h ⊢; first | exact h | omega) )
theorem v_if_gt {x : Int} {off : Int} (tgt : Nat) (hd : decode q.2.1 pc = .ok (.ifCond .gt off, 3)) (ht : (pc : Int) + off = (tgt : Int)) (hx : rng x) (k : 0 < x → wV G q mc ms sz M0 kc ks tgt lv st M Post) (k2 : x ≤ 0 → wV G q mc ms sz M0 kc ks (pc + 3) lv st M Post) : wV G q mc ms sz M0 kc ks pc lv (.int (gI x) :: st) M Post := by
  intro p e s m args below meth c H locs ls C hsz hW hm hS hl
  have hy : rng 0 := ⟨by omega, by omega⟩
  have h0 : (0 : Int32) = gI 0 := rfl
  refine lv_if_gt C.1 C.2.1 hd ht (fun h => k ?_ p e s m args below meth c H locs ls C hsz hW hm hS hl) (fun h => k2 ?_ p e s m args below meth c H locs ls C hsz hW hm hS hl)
  all_goals (rw [h0] at h; first | (simp only [gI_inj hx hy, gI_inj hy hx, gI_lt hx hy, gI_lt hy hx, gI_le hx hy, gI_le hy hx, ne_eq, ge_iff_le, gt_iff_lt] at h ⊢; first | exact h | omega) )
theorem v_icmp_le {x y : Int} {off : Int} (tgt : Nat) (hd : decode q.2.1 pc = .ok (.if_icmp .le off, 3)) (ht : (pc : Int) + off = (tgt : Int)) (hx : rng x) (hy : rng y) (k : x ≤ y → wV G q mc ms sz M0 kc ks tgt lv st M Post) (k2 : y < x → wV G q mc ms sz M0 kc ks (pc + 3) lv st M Post) : wV G q mc ms sz M0 kc ks pc lv (.int (gI y) :: .int (gI x) :: st) M Post := by
  intro p e s m args below meth c H locs ls C hsz hW hm hS hl
  have ilt : ∀ {a b : Int}, rng a → rng b → (gI a < gI b ↔ a < b) := gI_lt
  have ile : ∀ {a b : Int}, rng a → rng b → (gI a ≤ gI b ↔ a ≤ b) := gI_le
  refine lv_icmp_le C.1 C.2.1 hd ht (fun h => k ?_ p e s m args below meth c H locs ls C hsz hW hm hS hl) (fun h => k2 ?_ p e s m args below meth c H locs ls C hsz hW hm hS hl)
  all_goals (first | (simp only [gI_inj hx hy, gI_inj hy hx, gI_lt hx hy, gI_lt hy hx, gI_le hx hy, gI_le hy hx, ne_eq, ge_iff_le, gt_iff_lt] at h ⊢; first | exact h | omega) )
theorem v_if_le {x : Int} {off : Int} (tgt : Nat) (hd : decode q.2.1 pc = .ok (.ifCond .le off, 3)) (ht : (pc : Int) + off = (tgt : Int)) (hx : rng x) (k : x ≤ 0 → wV G q mc ms sz M0 kc ks tgt lv st M Post) (k2 : 0 < x → wV G q mc ms sz M0 kc ks (pc + 3) lv st M Post) : wV G q mc ms sz M0 kc ks pc lv (.int (gI x) :: st) M Post := by
  intro p e s m args below meth c H locs ls C hsz hW hm hS hl
  have hy : rng 0 := ⟨by omega, by omega⟩
  have h0 : (0 : Int32) = gI 0 := rfl
  refine lv_if_le C.1 C.2.1 hd ht (fun h => k ?_ p e s m args below meth c H locs ls C hsz hW hm hS hl) (fun h => k2 ?_ p e s m args below meth c H locs ls C hsz hW hm hS hl)
  all_goals (rw [h0] at h; first | (simp only [gI_inj hx hy, gI_inj hy hx, gI_lt hx hy, gI_lt hy hx, gI_le hx hy, gI_le hy hx, ne_eq, ge_iff_le, gt_iff_lt] at h ⊢; first | exact h | omega) )
theorem v_ldc {idx : Nat} {n : Int} (hd : decode q.2.1 pc = .ok (.ldc idx, 2)) (hw : Cond.constant q.1.cls idx (gI n) ∈ lw_good) (k : wV G q mc ms sz M0 kc ks (pc + 2) lv (.int (gI n) :: st) M Post) : wV G q mc ms sz M0 kc ks pc lv st M Post := by
  intro p e s m args below meth c H locs ls C hsz hW hm hS hl
  refine lv_ldc C.1 C.2.1 C.2.2.2.2.1 (C.2.2.2.2.2.1 _ (List.mem_cons_of_mem _ hw)) hd ?_
  exact k p e s m args below meth c H locs ls C hsz hW hm hS hl
theorem v_ldc2 {idx : Nat} {n : Int64} (hd : decode q.2.1 pc = .ok (.ldc2_w idx, 3)) (hw : Cond.constantLong q.1.cls idx n ∈ lw_good) (k : wV G q mc ms sz M0 kc ks (pc + 3) lv (.long n :: st) M Post) : wV G q mc ms sz M0 kc ks pc lv st M Post := by
  intro p e s m args below meth c H locs ls C hsz hW hm hS hl
  refine lv_ldc2 C.1 C.2.1 C.2.2.2.2.1 (C.2.2.2.2.2.1 _ (List.mem_cons_of_mem _ hw)) hd ?_
  exact k p e s m args below meth c H locs ls C hsz hW hm hS hl
end WRULES
end
section
section WHEAP
variable {G : gG} {q : mD} {mc ms sz kc ks pc : Nat} {M0 M : wM} {lv : List (Nat × Value)} {st rest : List Value} {Post : Option Value → wM → Prop}
/-- a field: the link of the class 'own', the class's number, the field's slot -/
def lkF (own : String) (idx ci k : Nat) : Prop := ∃ (C : String) (T : u_T) (N : Nat), vwCl[ci]? = some (C, T, N) ∧ k < N ∧ (∀ w ∈ u_ws C T N, w ∈ lw_good) ∧ Cond.fieldLink own idx (T k).1 (T k).2.1 (T k).2.2.1 ∈ lw_good
def lkN (own : String) (idx ci k : Nat) : Prop := ∃ (C : String) (T : u_T) (N : Nat) (host : String), vwCl[ci]? = some (C, T, N) ∧ k < N ∧ (∀ w ∈ u_ws C T N, w ∈ lw_good) ∧ Cond.fieldLinkNest own idx (T k).1 (T k).2.1 (T k).2.2.1 host ∈ lw_nest
/-- a field that may be written -/
def lkP (own : String) (idx ci k : Nat) (ty : FieldType) : Prop := ∃ (C : String) (T : u_T) (N : Nat) (ty0 : Nat → FieldType), vwCl[ci]? = some (C, T, N) ∧ k < N ∧ (∀ w ∈ u_ws C T N, w ∈ lw_good) ∧ Cond.fieldLink own idx (T k).1 (T k).2.1 (T k).2.2.1 ∈ lw_good ∧ (T k).2.2.2 = false ∧ (∀ k, k < N → parseFieldDescriptor (T k).2.2.1 = some (ty0 k)) ∧ (∀ a, a < N → ∀ b, b < N → a ≠ b → (T a).2.1 ≠ (T b).2.1) ∧ ty0 k = ty
def lkPF (own : String) (idx ci k : Nat) (ty : FieldType) : Prop := ∃ (C : String) (T : u_T) (N : Nat) (ty0 : Nat → FieldType), vwCl[ci]? = some (C, T, N) ∧ k < N ∧ (∀ w ∈ u_ws C T N, w ∈ lw_good) ∧ Cond.fieldLink own idx (T k).1 (T k).2.1 (T k).2.2.1 ∈ lw_good ∧ (T k).2.2.2 = true ∧ (T k).1 = own ∧ (∀ k, k < N → parseFieldDescriptor (T k).2.2.1 = some (ty0 k)) ∧ (∀ a, a < N → ∀ b, b < N → a ≠ b → (T a).2.1 ≠ (T b).2.1) ∧ ty0 k = ty
theorem v_get {idx ci k a : Nat} {fs : List Value} {v : Value} (hd : decode q.2.1 pc = .ok (.getfield idx, 3)) (hf : lkF q.1.cls idx ci k) (hM : M a = some (.inr (ci, fs))) (hv : fs[k]? = some v)
    (kk : wV G q mc ms sz M0 kc ks (pc + 3) lv (v :: st) M Post) : wV G q mc ms sz M0 kc ks pc lv (.ref a :: st) M Post := by
  intro p e s m args below meth c H locs ls C hsz hW hm hS hl
  obtain ⟨Cn, T, N, hc, hk, hin, hlk⟩ := hf
  obtain ⟨ws, hP, hD, hR⟩ := id hW
  obtain ⟨q0, he⟩ := List.getElem?_of_mem ((hR _ _).mp hM)
  exact va_get (own := q.1.cls) (T := T) C.1 C.2.1 C.2.2.2.2.2.1 (fun w h => List.mem_cons_of_mem _ (hin w h)) C.2.2.2.2.1 C.2.2.2.2.2.2.1.1 hP q0 he hc k hk (C.2.2.2.2.2.1 _ (List.mem_cons_of_mem _ hlk)) (fun _ h => h) hv hd (kk p e s m args below meth c H locs ls C hsz hW hm hS hl)
theorem v_getN {idx ci k a : Nat} {fs : List Value} {v : Value} (hd : decode q.2.1 pc = .ok (.getfield idx, 3)) (hf : lkN q.1.cls idx ci k) (hM : M a = some (.inr (ci, fs))) (hv : fs[k]? = some v)
    (kk : wV G q mc ms sz M0 kc ks (pc + 3) lv (v :: st) M Post) : wV G q mc ms sz M0 kc ks pc lv (.ref a :: st) M Post := by
  intro p e s m args below meth c H locs ls C hsz hW hm hS hl
  obtain ⟨Cn, T, N, host, hc, hk, hin, hlk⟩ := hf
  obtain ⟨ws, hP, hD, hR⟩ := id hW
  obtain ⟨q0, he⟩ := List.getElem?_of_mem ((hR _ _).mp hM)
  exact va_getN (own := q.1.cls) (T := T) C.1 C.2.1 C.2.2.2.2.2.1 (fun w h => List.mem_cons_of_mem _ (hin w h)) C.2.2.2.2.1 C.2.2.2.2.2.2.1.1 hP q0 he hc k hk (va_Nw.use rfl (C.2.2.2.2.2.2.1.2 _ hlk)) (fun _ h => h) hv hd (kk p e s m args below meth c H locs ls C hsz hW hm hS hl)
theorem wup_dom {a : Nat} {e1 : va_E} (hm : ∀ a, M0 a ≠ none → M a ≠ none) : ∀ b, M0 b ≠ none → wup M a e1 b ≠ none := by
  intro b hb
  unfold wup
  split
  · exact fun h => by cases h
  · exact hm b hb
theorem v_put {idx ci k a : Nat} {ty : FieldType} {fs : List Value} {v : Value} (hd : decode q.2.1 pc = .ok (.putfield idx, 3)) (hf : lkP q.1.cls idx ci k ty) (hM : M a = some (.inr (ci, fs))) (hn : narrow ty v = v) (hfit : fits ty v = true) (hlen : k < fs.length)
    (kk : wV G q mc ms sz M0 kc ks (pc + 3) lv st (wup M a (.inr (ci, fs.set k v))) Post) : wV G q mc ms sz M0 kc ks pc lv (v :: .ref a :: st) M Post := by
  intro p e s m args below meth c H locs ls C hsz hW hm hS hl
  obtain ⟨Cn, T, N, ty0, hc, hk, hin, hlk, hfin, hty, hnm, rfl⟩ := hf
  obtain ⟨ws, hP, hD, hR⟩ := id hW
  obtain ⟨q0, he⟩ := List.getElem?_of_mem ((hR _ _).mp hM)
  exact va_put (own := q.1.cls) (T := T) C.1 C.2.1 C.2.2.2.2.2.1 (fun w h => List.mem_cons_of_mem _ (hin w h)) ty0 hty hnm C.2.2.2.2.1 C.2.2.2.2.2.2.1.1 hP hD hS q0 he hc k hk (C.2.2.2.2.2.1 _ (List.mem_cons_of_mem _ hlk)) (fun _ h => h) hfin (hty k hk) hn hfit hlen hd (fun H1 locs1 hP1 hD1 hS1 => kk p e s m args below meth c H1 locs1 ls C hsz ⟨_, hP1, hD1, hR.set hD he⟩ (wup_dom hm) hS1 hl)
theorem v_putF {idx ci k a : Nat} {ty : FieldType} {fs : List Value} {v : Value} (hd : decode q.2.1 pc = .ok (.putfield idx, 3)) (hf : lkPF q.1.cls idx ci k ty) (hin2 : q.1.name = "<init>") (hM : M a = some (.inr (ci, fs))) (hn : narrow ty v = v) (hfit : fits ty v = true) (hlen : k < fs.length)
    (kk : wV G q mc ms sz M0 kc ks (pc + 3) lv st (wup M a (.inr (ci, fs.set k v))) Post) : wV G q mc ms sz M0 kc ks pc lv (v :: .ref a :: st) M Post := by
  intro p e s m args below meth c H locs ls C hsz hW hm hS hl
  obtain ⟨Cn, T, N, ty0, hc, hk, hin, hlk, hfin, hdc, hty, hnm, rfl⟩ := hf
  obtain ⟨ws, hP, hD, hR⟩ := id hW
  obtain ⟨q0, he⟩ := List.getElem?_of_mem ((hR _ _).mp hM)
  exact va_putF (own := q.1.cls) (T := T) C.1 C.2.1 C.2.2.2.2.2.1 (fun w h => List.mem_cons_of_mem _ (hin w h)) ty0 hty hnm C.2.2.2.2.1 C.2.2.2.2.2.2.1.1 hP hD hS q0 he hc k hk (C.2.2.2.2.2.1 _ (List.mem_cons_of_mem _ hlk)) (fun _ h => h) hfin (C.2.2.2.2.2.2.2.2.trans hin2) hdc (hty k hk) hn hfit hlen hd (fun H1 locs1 hP1 hD1 hS1 => kk p e s m args below meth c H1 locs1 ls C hsz ⟨_, hP1, hD1, hR.set hD he⟩ (wup_dom hm) hS1 hl)
theorem v_iald {a n : Nat} {f : Nat → Int} {i : Int} (hd : decode q.2.1 pc = .ok (.iaload, 1)) (hM : M a = some (.inl (G.2.2 0, n, .inl (gF f)))) (h0 : 0 ≤ i) (h1 : i < n) (hb : n ≤ 2147483647)
    (kk : wV G q mc ms sz M0 kc ks (pc + 1) lv (.int (gI (f i.toNat)) :: st) M Post) : wV G q mc ms sz M0 kc ks pc lv (.int (gI i) :: .ref a :: st) M Post := by
  intro p e s m args below meth c H locs ls C hsz hW hm hS hl
  obtain ⟨ws, hP, hD, hR⟩ := id hW
  obtain ⟨q0, he⟩ := List.getElem?_of_mem ((hR _ _).mp hM)
  refine va_iald C.1 C.2.1 C.2.2.2.2.2.2.1.1 hP q0 0 he rfl (gI_in h0 h1 hb) hd ?_
  rw [gI_clamp h0 (by omega)]
  exact kk p e s m args below meth c H locs ls C hsz hW hm hS hl
theorem v_zald {a n : Nat} {f : Nat → Int} {i : Int} (hd : decode q.2.1 pc = .ok (.baload, 1)) (hM : M a = some (.inl (G.2.2 1, n, .inl (gF f)))) (h0 : 0 ≤ i) (h1 : i < n) (hb : n ≤ 2147483647)
    (kk : wV G q mc ms sz M0 kc ks (pc + 1) lv (.int (gI (f i.toNat)) :: st) M Post) : wV G q mc ms sz M0 kc ks pc lv (.int (gI i) :: .ref a :: st) M Post := by
  intro p e s m args below meth c H locs ls C hsz hW hm hS hl
  obtain ⟨ws, hP, hD, hR⟩ := id hW
  obtain ⟨q0, he⟩ := List.getElem?_of_mem ((hR _ _).mp hM)
  refine va_zald C.1 C.2.1 C.2.2.2.2.2.2.1.1 hP q0 1 he rfl (gI_in h0 h1 hb) hd ?_
  rw [gI_clamp h0 (by omega)]
  exact kk p e s m args below meth c H locs ls C hsz hW hm hS hl
theorem v_aald {a n t0 : Nat} {cA : ClassId} {Cn : String} {f : Nat → Nat} {i : Int} (hd : decode q.2.1 pc = .ok (.aaload, 1)) (hM : M a = some (.inl (G.2.2 t0, n, .inr (.inr (.inr (.inr (fun j => some (f j)))))))) (ht : t0 = 2 ∧ Cn = "WavePairs$Row" ∨ t0 = 3 ∧ Cn = "WavePairs$Mask" ∨ t0 = 4 ∧ Cn = "WavePairs$Channel" ∨ t0 = 5 ∧ Cn = "WavePairs$Gate" ∨ t0 = 6 ∧ Cn = "WavePairs$Pair") (h0 : 0 ≤ i) (h1 : i < n) (hb : n ≤ 2147483647)
    (kk : wV G q mc ms sz M0 kc ks (pc + 1) lv (.ref (f i.toNat) :: st) M Post) : wV G q mc ms sz M0 kc ks pc lv (.int (gI i) :: .ref a :: st) M Post := by
  intro p e s m args below meth c H locs ls C hsz hW hm hS hl
  obtain ⟨ws, hP, hD, hR⟩ := id hW
  obtain ⟨q0, he⟩ := List.getElem?_of_mem ((hR _ _).mp hM)
  refine va_aldq (C := Cn) C.1 C.2.1 C.2.2.2.2.2.2.1.1 hP q0 t0 he ?_ (gI_in h0 h1 hb) hd ?_
  · rcases ht with ⟨rfl, rfl⟩ | ⟨rfl, rfl⟩ | ⟨rfl, rfl⟩ | ⟨rfl, rfl⟩ | ⟨rfl, rfl⟩ <;> rfl
  · rw [gI_clamp h0 (by omega)]
    exact kk p e s m args below meth c H locs ls C hsz hW hm hS hl
theorem v_iast {a n : Nat} {f : Nat → Int} {i x : Int} (hd : decode q.2.1 pc = .ok (.iastore, 1)) (hM : M a = some (.inl (G.2.2 0, n, .inl (gF f)))) (h0 : 0 ≤ i) (h1 : i < n) (hb : n ≤ 2147483647)
    (kk : wV G q mc ms sz M0 kc ks (pc + 1) lv st (wup M a (.inl (G.2.2 0, n, .inl (gF (upz f i.toNat x))))) Post) : wV G q mc ms sz M0 kc ks pc lv (.int (gI x) :: .int (gI i) :: .ref a :: st) M Post := by
  intro p e s m args below meth c H locs ls C hsz hW hm hS hl
  obtain ⟨ws, hP, hD, hR⟩ := id hW
  obtain ⟨q0, he⟩ := List.getElem?_of_mem ((hR _ _).mp hM)
  refine va_iast C.1 C.2.1 C.2.2.2.2.2.2.1.1 hP hD hS q0 0 he rfl (gI_in h0 h1 hb) hd (fun H1 locs1 hP1 hD1 hS1 => ?_)
  rw [gI_clamp h0 (by omega), gF_upd] at hP1 hD1
  exact kk p e s m args below meth c H1 locs1 ls C hsz ⟨_, hP1, hD1, hR.set hD he⟩ (wup_dom hm) hS1 hl
theorem v_zast {a n : Nat} {f : Nat → Int} {i x : Int} (hd : decode q.2.1 pc = .ok (.bastore, 1)) (hM : M a = some (.inl (G.2.2 1, n, .inl (gF f)))) (h0 : 0 ≤ i) (h1 : i < n) (hb : n ≤ 2147483647) (hx : x = 0 ∨ x = 1)
    (kk : wV G q mc ms sz M0 kc ks (pc + 1) lv st (wup M a (.inl (G.2.2 1, n, .inl (gF (upz f i.toNat x))))) Post) : wV G q mc ms sz M0 kc ks pc lv (.int (gI x) :: .int (gI i) :: .ref a :: st) M Post := by
  intro p e s m args below meth c H locs ls C hsz hW hm hS hl
  obtain ⟨ws, hP, hD, hR⟩ := id hW
  obtain ⟨q0, he⟩ := List.getElem?_of_mem ((hR _ _).mp hM)
  refine va_zast C.1 C.2.1 C.2.2.2.2.2.2.1.1 hP hD hS q0 1 he rfl (gI_in h0 h1 hb) hd (fun H1 locs1 hP1 hD1 hS1 => ?_)
  rw [gI_clamp h0 (by omega), show vp_nar .boolean (gI x) = gI x from by rcases hx with rfl | rfl <;> decide, gF_upd] at hP1 hD1
  exact kk p e s m args below meth c H1 locs1 ls C hsz ⟨_, hP1, hD1, hR.set hD he⟩ (wup_dom hm) hS1 hl
theorem v_alen {a n t0 : Nat} {x : vp_A} {ty : FieldType} (hd : decode q.2.1 pc = .ok (.arraylength, 1)) (hM : M a = some (.inl (G.2.2 t0, x))) (ht : t0 = 0 ∨ t0 = 1 ∨ t0 = 2 ∨ t0 = 3 ∨ t0 = 4 ∨ t0 = 5 ∨ t0 = 6) (hn : x.1 = n)
    (kk : wV G q mc ms sz M0 kc ks (pc + 1) lv (.int (gI n) :: st) M Post) : wV G q mc ms sz M0 kc ks pc lv (.ref a :: st) M Post := by
  intro p e s m args below meth c H locs ls C hsz hW hm hS hl
  obtain ⟨ws, hP, hD, hR⟩ := id hW
  obtain ⟨q0, he⟩ := List.getElem?_of_mem ((hR _ _).mp hM)
  have hv : Int32.ofNat x.1 = gI n := by rw [hn]; rfl
  have kk' := kk p e s m args below meth c H locs ls C hsz hW hm hS hl
  rcases ht with rfl | rfl | rfl | rfl | rfl | rfl | rfl
  · exact va_alen C.1 C.2.1 C.2.2.2.2.2.2.1.1 hP q0 0 he rfl hv hd kk'
  · exact va_alen C.1 C.2.1 C.2.2.2.2.2.2.1.1 hP q0 1 he rfl hv hd kk'
  · exact va_alen C.1 C.2.1 C.2.2.2.2.2.2.1.1 hP q0 2 he rfl hv hd kk'
  · exact va_alen C.1 C.2.1 C.2.2.2.2.2.2.1.1 hP q0 3 he rfl hv hd kk'
  · exact va_alen C.1 C.2.1 C.2.2.2.2.2.2.1.1 hP q0 4 he rfl hv hd kk'
  · exact va_alen C.1 C.2.1 C.2.2.2.2.2.2.1.1 hP q0 5 he rfl hv hd kk'
  · exact va_alen C.1 C.2.1 C.2.2.2.2.2.2.1.1 hP q0 6 he rfl hv hd kk'
end WHEAP
end
section
section WCALLS
variable {G : gG} {q q2 : mD} {mc ms sz kc ks pc mc2 ms2 : Nat} {M0 M : wM} {lv : List (Nat × Value)} {st rest : List Value} {Post Post2 : Option Value → wM → Prop}
def iP (f : Int → wM → Prop) : Option Value → wM → Prop := fun v M => ∃ r : Int, v = some (.int (gI r)) ∧ rng r ∧ f r M
def vP (f : wM → Prop) : Option Value → wM → Prop := fun v M => v = none ∧ f M
def rP (f : Nat → wM → Prop) : Option Value → wM → Prop := fun v M => ∃ a : Nat, v = some (.ref a) ∧ f a M
theorem v_iret {f : Int → wM → Prop} {x : Int} (hd : decode q.2.1 pc = .ok (.ireturn, 1)) (hr : q.2.2.2.1 = some .int) (hk : kc ≤ mc ∧ ks ≤ ms) (hx : rng x) (h : f x M) : wV G q mc ms sz M0 kc ks pc lv [.int (gI x)] M (iP f) := by
  intro p e s m args below meth c H locs ls C hsz hW hm hS hl
  have hlocks := C.2.2.2.2.2.2.2.1
  refine W.widen hk.1 hk.2 ?_
  exact W.iret C.1 C.2.1 (C.2.2.2.1.trans hr) (fun t ht hW2 => ⟨⟨_, M, rfl, ⟨x, rfl, hx, h⟩, by rw [ht]; exact hW, hm⟩, by subst hsz; exact hS.F ht⟩) hS.2.2 hd
theorem v_zret {f : Int → wM → Prop} {x : Int} (hd : decode q.2.1 pc = .ok (.ireturn, 1)) (hr : q.2.2.2.1 = some .boolean) (hk : kc ≤ mc ∧ ks ≤ ms) (hx : x = 0 ∨ x = 1) (h : f x M) : wV G q mc ms sz M0 kc ks pc lv [.int (gI x)] M (iP f) := by
  intro p e s m args below meth c H locs ls C hsz hW hm hS hl
  have hlocks := C.2.2.2.2.2.2.2.1
  refine W.widen hk.1 hk.2 ?_
  exact W.zret C.1 C.2.1 (C.2.2.2.1.trans hr) (by rcases hx with rfl | rfl <;> decide) (fun t ht hW2 => ⟨⟨_, M, rfl, ⟨x, rfl, by rcases hx with rfl | rfl <;> exact ⟨by omega, by omega⟩, h⟩, by rw [ht]; exact hW, hm⟩, by subst hsz; exact hS.F ht⟩) hS.2.2 hd
theorem v_vret {f : wM → Prop} (hd : decode q.2.1 pc = .ok (.return_, 1)) (hr : q.2.2.2.1 = none) (hk : kc ≤ mc ∧ ks ≤ ms) (h : f M) : wV G q mc ms sz M0 kc ks pc lv [] M (vP f) := by
  intro p e s m args below meth c H locs ls C hsz hW hm hS hl
  have hlocks := C.2.2.2.2.2.2.2.1
  refine W.widen hk.1 hk.2 ?_
  exact W.vret C.1 C.2.1 (C.2.2.2.1.trans hr) (fun t ht hW2 => ⟨⟨_, M, rfl, ⟨rfl, h⟩, by rw [ht]; exact hW, hm⟩, by subst hsz; exact hS.F ht⟩) hS.2.2 hd
theorem v_aret {f : Nat → wM → Prop} {a : Nat} {nm : String} (hd : decode q.2.1 pc = .ok (.areturn, 1)) (hr : q.2.2.2.1 = some (.object nm)) (hk : kc ≤ mc ∧ ks ≤ ms) (h : f a M) : wV G q mc ms sz M0 kc ks pc lv [.ref a] M (rP f) := by
  intro p e s m args below meth c H locs ls C hsz hW hm hS hl
  have hlocks := C.2.2.2.2.2.2.2.1
  refine W.widen hk.1 hk.2 ?_
  exact W.aret C.1 C.2.1 (C.2.2.2.1.trans hr) (Or.inl ⟨_, rfl⟩) (Or.inr ⟨a, rfl⟩) (fun t ht hW2 => ⟨⟨_, M, rfl, ⟨a, rfl, h⟩, by rw [ht]; exact hW, hm⟩, by subst hsz; exact hS.F ht⟩) hS.2.2 hd
/-- behind a call -/
theorem v_behind {p : Program} {e : Env} {s : State} {m : MethodId} {args : Array Value} {below : List Frame} {meth : Method} {c : Code} {H : Heap} {locs : List Loc} {ls : Array Slot} {a : Array Value}
    (C : cX G q p s m args meth c) (hsz : s.heap.size = sz) (hW : wW G.2.1 (wA M0 sz) M H) (hm : ∀ a, M0 a ≠ none → M a ≠ none) (hS : va_S (wA M0 sz) s.heap H locs) (hl : lv_has ls q.2.2.1 lv)
    (hr : va_Run p G.1 e (rm_of q mc ms) s m args below meth c H locs kc ks mc2 ms2 (F0 m pc ls st) rest (wQ G M H.size Post2 a) (wA M H.size))
    (kk : ∀ v M', Post2 v M' → wV G q mc ms sz M0 (kc + mc2) (ks + ms2) (pc + 3) lv (v.toList ++ rest) M' Post) :
    W p G.1 e (rm_of q mc ms) s m args below meth c H locs kc ks (MQ below (wQ G M0 sz Post) args s mc ms (wA M0 sz)) (F0 m pc ls st) := by
  intro T hT X
  obtain ⟨v, st₀, t, T', L, h0, X', hL, e1, e2, ⟨⟨v', M', hv, hp, hW', hm'⟩, hz, hk⟩, stp⟩ := hr T hT X
  cases hv
  rw [h0] at hz hk
  have hsub : ∀ b, wA M H.size b → wA M0 sz b := by
    intro b hb
    rcases hb with hb | hb
    · obtain ⟨ws, hP, hD, hR⟩ := hW
      cases hMb : M b with
      | none => exact absurd hMb hb
      | some eb =>
        obtain ⟨i, hi⟩ := List.getElem?_of_mem ((hR b eb).mp hMb)
        exact hD.2 i _ hi
    · exact Or.inr (by have := hS.1; omega)
  have hkk := kk _ M' hp p e s m args below meth c T'.heap (locs ++ L) ls C hsz (by rw [e1]; exact hW'.weaken (fun b _ hb => hsub b hb)) (fun b hb => hm' b (hm b hb))
    ⟨Nat.le_trans hS.1 (by rw [e1]; exact hz), fun b h1 h2 => by rw [e1, hk b (Nat.lt_of_lt_of_le h1 hS.1) (fun z => h2 (hsub b z))]; exact hS.2.1 b h1 h2, fun x hx => by
      rcases List.mem_append.mp hx with h | h
      · exact hS.2.2 x h
      · exact hsub _ (hL x h)⟩ hl
  obtain ⟨t2, a1, b1⟩ := hkk T' rfl X'
  exact ⟨t2, stp t2 a1, b1⟩
theorem pc_blind {av : List Value} {M : wM} {sz : Nat} : FrameBlind (va_Pc av (fun U => U.heap.size = sz ∧ wW G.2.1 (fun _ => True) M U.heap ∧ wK G U)) := by
  intro a U g mk h
  obtain ⟨h1, h2, h3, h4⟩ := h
  exact ⟨h1, h2, h3, wK.same (s := U) (U := U.calling g mk a) rfl h4⟩
/-- the words of a call -/
def lkV (own : String) (idx : Nat) (q2 : mD) (n : Nat) : Prop := (∀ w ∈ ([.methodLink own idx q2.1, .instanceMethod q2.1, .selects q2.1.cls q2.1 q2.1, .initialized q2.1.cls, .code q2.1 q2.2.1 q2.2.2.1 q2.2.2.2.1] : List Cond), w ∈ lw_good) ∧ q2.1.cls ≠ "java/lang/invoke/MethodHandle" ∧ q2.1.cls ≠ "java/lang/invoke/VarHandle" ∧ (parseMethodDescriptor q2.1.desc).map (fun d => d.parameters.length) = some n
def lkS (own : String) (idx : Nat) (q2 : mD) (n : Nat) : Prop := (∀ w ∈ ([.methodLink own idx q2.1, .static q2.1, .initialized own, .code q2.1 q2.2.1 q2.2.2.1 q2.2.2.2.1] : List Cond), w ∈ lw_good) ∧ q2.1.cls = own ∧ q2.1.cls ≠ "java/lang/invoke/MethodHandle" ∧ q2.1.cls ≠ "java/lang/invoke/VarHandle" ∧ (parseMethodDescriptor q2.1.desc).map (fun d => d.parameters.length) = some n
def lkSN (own : String) (idx : Nat) (q2 : mD) (n : Nat) : Prop := ∃ host, (∀ w ∈ ([.static q2.1, .initialized q2.1.cls, .code q2.1 q2.2.1 q2.2.2.1 q2.2.2.2.1] : List Cond), w ∈ lw_good) ∧ Cond.methodLinkNest own idx q2.1 host ∈ lw_nest ∧ q2.1.cls ≠ "java/lang/invoke/MethodHandle" ∧ q2.1.cls ≠ "java/lang/invoke/VarHandle" ∧ (parseMethodDescriptor q2.1.desc).map (fun d => d.parameters.length) = some n
def lkI (own : String) (idx : Nat) (q2 : mD) (n : Nat) : Prop := (∀ w ∈ ([.methodLink own idx q2.1, .instanceMethod q2.1, .initialized q2.1.cls, .code q2.1 q2.2.1 q2.2.2.1 none] : List Cond), w ∈ lw_good) ∧ q2.1.name = "<init>" ∧ q2.2.2.2.1 = none ∧ q2.1.cls ≠ "java/lang/invoke/MethodHandle" ∧ q2.1.cls ≠ "java/lang/invoke/VarHandle" ∧ (parseMethodDescriptor q2.1.desc).map (fun d => d.parameters.length) = some n
def lkIN (own : String) (idx : Nat) (q2 : mD) (n : Nat) : Prop := ∃ host, (∀ w ∈ ([.instanceMethod q2.1, .initialized q2.1.cls, .code q2.1 q2.2.1 q2.2.2.1 none] : List Cond), w ∈ lw_good) ∧ Cond.methodLinkNest own idx q2.1 host ∈ lw_nest ∧ q2.1.name = "<init>" ∧ q2.2.2.2.1 = none ∧ q2.1.cls ≠ "java/lang/invoke/MethodHandle" ∧ q2.1.cls ≠ "java/lang/invoke/VarHandle" ∧ (parseMethodDescriptor q2.1.desc).map (fun d => d.parameters.length) = some n
def fit2 (q q2 : mD) : Prop := q2.2.2.2.2.1 + 1 ≤ q.2.2.2.2.1 ∧ 8 + (q2.2.2.1 + 11) + q2.2.2.2.2.2 ≤ q.2.2.2.2.2
/-- the receiver is an object of the class -/
def isO (M : wM) (b : Nat) (cls : String) : Prop := ∃ (ci : Nat) (fs : List Value) (T : u_T) (N : Nat), M b = some (.inr (ci, fs)) ∧ vwCl[ci]? = some (cls, T, N)
theorem v_callV {idx n b : Nat} {As : List Value} (hT : wT G q2 mc2 ms2 (.ref b :: As) M Post2) (hlk : lkV q.1.cls idx q2 n) (hfit : fit2 q q2) (hd : decode q.2.1 pc = .ok (.invokevirtual idx, 3)) (hst : st = As.reverse ++ .ref b :: rest) (hn : As.length = n) (hrest : (rest.map fun v => v.category).sum ≤ 8) (hc : kc + mc2 ≤ mc ∧ ks + ms2 ≤ ms) (hO : isO M b q2.1.cls)
    (kk : ∀ v M', Post2 v M' → wV G q mc ms sz M0 (kc + mc2) (ks + ms2) (pc + 3) lv (v.toList ++ rest) M' Post) : wV G q mc ms sz M0 kc ks pc lv st M Post := by
  intro p e s m args below meth c H locs ls C hsz hW hm hS hl
  subst hst
  refine v_behind (a := (Value.ref b :: As).toArray) C hsz hW hm hS hl ?_ kk
  have hts := C.2.2.2.2.2.1
  have ok : ∀ w ∈ lw_good, w.before args s = true := fun w h => hts w (List.mem_cons_of_mem _ h)
  obtain ⟨ws, hP, hD, hR⟩ := id hW
  obtain ⟨ci, fs, T, N, hMb, hcl⟩ := hO
  obtain ⟨q0, he⟩ := List.getElem?_of_mem ((hR _ _).mp hMb)
  have hcw : CallW (rm_of q mc ms) s args q.1.cls q2.1.cls idx q2.1 q2.2.1 q2.2.2.1 q2.2.2.2.1 (ws_of q2) (rm_of q2 mc2 ms2) mc2 ms2 n :=
    ⟨callB_of n hts (goodIn_ws q q2 (hlk.1 _ (by simp))) rfl rfl rfl (ok _ (hlk.1 _ (by simp))) (ok _ (hlk.1 _ (by simp))) hlk.2 hfit, ok _ (hlk.1 _ (by simp)), ok _ (hlk.1 _ (by simp))⟩
  refine va_runV (Ts := ws_of q) ⟨C.1, C.2.1, C.2.2.1, C.2.2.2.2.1, hts⟩ (hT H.size) hcw ⟨pc_blind, va_recv C.2.2.2.2.2.2.1.1 hP hcl he, fun U hU hWm => ⟨rfl, by rw [hU], by rw [hU]; exact hW.weaken (fun _ _ _ => trivial), C.2.2.2.2.2.2.1.warm hWm⟩⟩ rfl hn hl.1 rfl (lv_room hrest) hd hc
theorem v_callS {idx n : Nat} {As : List Value} (hT : wT G q2 mc2 ms2 As M Post2) (hlk : lkS q.1.cls idx q2 n) (hfit : fit2 q q2) (hd : decode q.2.1 pc = .ok (.invokestatic idx, 3)) (hst : st = As.reverse ++ rest) (hn : As.length = n) (hrest : (rest.map fun v => v.category).sum ≤ 8) (hc : kc + mc2 ≤ mc ∧ ks + ms2 ≤ ms)
    (kk : ∀ v M', Post2 v M' → wV G q mc ms sz M0 (kc + mc2) (ks + ms2) (pc + 3) lv (v.toList ++ rest) M' Post) : wV G q mc ms sz M0 kc ks pc lv st M Post := by
  intro p e s m args below meth c H locs ls C hsz hW hm hS hl
  subst hst
  refine v_behind (a := As.toArray) C hsz hW hm hS hl ?_ kk
  have hts := C.2.2.2.2.2.1
  have ok : ∀ w ∈ lw_good, w.before args s = true := fun w h => hts w (List.mem_cons_of_mem _ h)
  refine va_runS (Ts := ws_of q) ⟨C.1, C.2.1, C.2.2.1, C.2.2.2.2.1, hts⟩ (hT H.size) ⟨callB_of n hts (goodIn_ws q q2 (hlk.1 _ (by simp))) rfl rfl rfl (by rw [hlk.2.1]; exact ok _ (hlk.1 _ (by simp))) (ok _ (hlk.1 _ (by simp))) hlk.2.2 hfit, ok _ (hlk.1 _ (by simp))⟩ ⟨pc_blind, fun U hU hWm => ⟨rfl, by rw [hU], by rw [hU]; exact hW.weaken (fun _ _ _ => trivial), C.2.2.2.2.2.2.1.warm hWm⟩⟩ rfl hn hl.1 rfl (lv_room hrest) hd hc
theorem v_callSN {idx n : Nat} {As : List Value} (hT : wT G q2 mc2 ms2 As M Post2) (hlk : lkSN q.1.cls idx q2 n) (hfit : fit2 q q2) (hd : decode q.2.1 pc = .ok (.invokestatic idx, 3)) (hst : st = As.reverse ++ rest) (hn : As.length = n) (hrest : (rest.map fun v => v.category).sum ≤ 8) (hc : kc + mc2 ≤ mc ∧ ks + ms2 ≤ ms)
    (kk : ∀ v M', Post2 v M' → wV G q mc ms sz M0 (kc + mc2) (ks + ms2) (pc + 3) lv (v.toList ++ rest) M' Post) : wV G q mc ms sz M0 kc ks pc lv st M Post := by
  intro p e s m args below meth c H locs ls C hsz hW hm hS hl
  subst hst
  refine v_behind (a := As.toArray) C hsz hW hm hS hl ?_ kk
  have hts := C.2.2.2.2.2.1
  have ok : ∀ w ∈ lw_good, w.before args s = true := fun w h => hts w (List.mem_cons_of_mem _ h)
  obtain ⟨host, hw1, hw2, hw3⟩ := hlk
  refine va_runSN (Ts := ws_of q) (host := host) ⟨C.1, C.2.1, C.2.2.1, C.2.2.2.2.1, hts⟩ (hT H.size) ⟨va_cnB n hts (goodIn_ws q q2 (hw1 _ (by simp))) rfl rfl rfl (C.2.2.2.2.2.2.1.2 _ hw2) (ok _ (hw1 _ (by simp))) hw3 hfit, ok _ (hw1 _ (by simp)), trivial⟩ ⟨pc_blind, fun U hU hWm => ⟨rfl, by rw [hU], by rw [hU]; exact hW.weaken (fun _ _ _ => trivial), C.2.2.2.2.2.2.1.warm hWm⟩⟩ rfl hn hl.1 rfl (lv_room hrest) hd hc
theorem v_callI {idx n b : Nat} {As : List Value} (hT : wT G q2 mc2 ms2 (.ref b :: As) M Post2) (hlk : lkI q.1.cls idx q2 n) (hfit : fit2 q q2) (hd : decode q.2.1 pc = .ok (.invokespecial idx, 3)) (hst : st = As.reverse ++ .ref b :: rest) (hn : As.length = n) (hrest : (rest.map fun v => v.category).sum ≤ 8) (hc : kc + mc2 ≤ mc ∧ ks + ms2 ≤ ms)
    (kk : ∀ v M', Post2 v M' → wV G q mc ms sz M0 (kc + mc2) (ks + ms2) (pc + 3) lv (v.toList ++ rest) M' Post) : wV G q mc ms sz M0 kc ks pc lv st M Post := by
  intro p e s m args below meth c H locs ls C hsz hW hm hS hl
  subst hst
  refine v_behind (a := (Value.ref b :: As).toArray) C hsz hW hm hS hl ?_ kk
  have hts := C.2.2.2.2.2.1
  have ok : ∀ w ∈ lw_good, w.before args s = true := fun w h => hts w (List.mem_cons_of_mem _ h)
  obtain ⟨hw1, hnm, hret, hw3⟩ := hlk
  refine va_runI (bytes := q2.2.1) (maxL := q2.2.2.1) (Ts := ws_of q) ⟨C.1, C.2.1, C.2.2.1, C.2.2.2.2.1, hts⟩ (hT H.size) ⟨callB_of (ret := none) (ws' := lw_good) n hts (goodIn_ws q q2 (by rw [hret]; exact hw1 _ (by simp))) (by unfold ws_of; rw [hret]) rfl rfl (ok _ (hw1 _ (by simp))) (ok _ (hw1 _ (by simp))) hw3 hfit, hnm, ok _ (hw1 _ (by simp))⟩ ⟨pc_blind, fun U hU hWm => ⟨rfl, by rw [hU], by rw [hU]; exact hW.weaken (fun _ _ _ => trivial), C.2.2.2.2.2.2.1.warm hWm⟩⟩ rfl hn hl.1 rfl (lv_room hrest) hd hc
theorem v_callIN {idx n b : Nat} {As : List Value} (hT : wT G q2 mc2 ms2 (.ref b :: As) M Post2) (hlk : lkIN q.1.cls idx q2 n) (hfit : fit2 q q2) (hd : decode q.2.1 pc = .ok (.invokespecial idx, 3)) (hst : st = As.reverse ++ .ref b :: rest) (hn : As.length = n) (hrest : (rest.map fun v => v.category).sum ≤ 8) (hc : kc + mc2 ≤ mc ∧ ks + ms2 ≤ ms)
    (kk : ∀ v M', Post2 v M' → wV G q mc ms sz M0 (kc + mc2) (ks + ms2) (pc + 3) lv (v.toList ++ rest) M' Post) : wV G q mc ms sz M0 kc ks pc lv st M Post := by
  intro p e s m args below meth c H locs ls C hsz hW hm hS hl
  subst hst
  refine v_behind (a := (Value.ref b :: As).toArray) C hsz hW hm hS hl ?_ kk
  have hts := C.2.2.2.2.2.1
  have ok : ∀ w ∈ lw_good, w.before args s = true := fun w h => hts w (List.mem_cons_of_mem _ h)
  obtain ⟨host, hw1, hw2, hnm, hret, hw3⟩ := hlk
  refine va_runIN (host := host) (bytes := q2.2.1) (maxL := q2.2.2.1) (Ts := ws_of q) ⟨C.1, C.2.1, C.2.2.1, C.2.2.2.2.1, hts⟩ (hT H.size) ⟨va_cnB (ret := none) (ws' := lw_good) n hts (goodIn_ws q q2 (by rw [hret]; exact hw1 _ (by simp))) (by unfold ws_of; rw [hret]) rfl rfl (C.2.2.2.2.2.2.1.2 _ hw2) (ok _ (hw1 _ (by simp))) hw3 hfit, hnm, ok _ (hw1 _ (by simp))⟩ ⟨pc_blind, fun U hU hWm => ⟨rfl, by rw [hU], by rw [hU]; exact hW.weaken (fun _ _ _ => trivial), C.2.2.2.2.2.2.1.warm hWm⟩⟩ rfl hn hl.1 rfl (lv_room hrest) hd hc
theorem kI {f : Int → wM → Prop} (k : ∀ r M', rng r → f r M' → wV G q mc ms sz M0 (kc + mc2) (ks + ms2) (pc + 3) lv (.int (gI r) :: rest) M' Post) : ∀ v M', iP f v M' → wV G q mc ms sz M0 (kc + mc2) (ks + ms2) (pc + 3) lv (v.toList ++ rest) M' Post := by
  rintro v M' ⟨r, rfl, hr, h⟩
  exact k r M' hr h
theorem kV {f : wM → Prop} (k : ∀ M', f M' → wV G q mc ms sz M0 (kc + mc2) (ks + ms2) (pc + 3) lv rest M' Post) : ∀ v M', vP f v M' → wV G q mc ms sz M0 (kc + mc2) (ks + ms2) (pc + 3) lv (v.toList ++ rest) M' Post := by
  rintro v M' ⟨rfl, h⟩
  exact k M' h
theorem kR {f : Nat → wM → Prop} (k : ∀ a M', f a M' → wV G q mc ms sz M0 (kc + mc2) (ks + ms2) (pc + 3) lv (.ref a :: rest) M' Post) : ∀ v M', rP f v M' → wV G q mc ms sz M0 (kc + mc2) (ks + ms2) (pc + 3) lv (v.toList ++ rest) M' Post := by
  rintro v M' ⟨a, rfl, h⟩
  exact k a M' h
def lkM (own : String) (idx : Nat) (y : MethodName) (cd : ByteArray) : Prop := ∀ w ∈ ([.methodLink own idx y, .static y, .initialized "java/lang/Math", .code y cd 2 (some .int)] : List Cond), w ∈ lw_good
theorem v_min {idx : Nat} {x y : Int} (hd : decode q.2.1 pc = .ok (.invokestatic idx, 3)) (hlk : lkM q.1.cls idx Lib.Math.min.name Lib.Math.min.code) (hfr : 1 ≤ q.2.2.2.2.1) (hlo : (st.map fun v => v.category).sum + 13 ≤ q.2.2.2.2.2) (hc : kc ≤ mc ∧ ks ≤ ms) (hx : rng x) (hy : rng y)
    (k : wV G q mc ms sz M0 kc ks (pc + 3) lv (.int (gI (if y < x then y else x)) :: st) M Post) : wV G q mc ms sz M0 kc ks pc lv (.int (gI y) :: .int (gI x) :: st) M Post := by
  intro p e s m args below meth c H locs ls C hsz hW hm hS hl
  have ok : ∀ w ∈ lw_good, w.before args s = true := fun w h => C.2.2.2.2.2.1 w (List.mem_cons_of_mem _ h)
  refine va_mmin C.1 C.2.1 (C.2.2.1.trans hl.1.symm) C.2.2.2.2.1 (ok _ (hlk _ (by simp))) (ok _ (hlk _ (by simp))) (ok _ (hlk _ (by simp))) (ok _ (hlk _ (by simp))) hfr hlo hc.1 hc.2 hd ?_
  rw [show (if gI y < gI x then gI y else gI x) = gI (if y < x then y else x) from by simp only [gI_lt hy hx]; split <;> rfl]
  exact k p e s m args below meth c H locs ls C hsz hW hm hS hl
theorem v_max {idx : Nat} {x y : Int} (hd : decode q.2.1 pc = .ok (.invokestatic idx, 3)) (hlk : lkM q.1.cls idx Lib.Math.max.name Lib.Math.max.code) (hfr : 1 ≤ q.2.2.2.2.1) (hlo : (st.map fun v => v.category).sum + 13 ≤ q.2.2.2.2.2) (hc : kc ≤ mc ∧ ks ≤ ms) (hx : rng x) (hy : rng y)
    (k : wV G q mc ms sz M0 kc ks (pc + 3) lv (.int (gI (if x < y then y else x)) :: st) M Post) : wV G q mc ms sz M0 kc ks pc lv (.int (gI y) :: .int (gI x) :: st) M Post := by
  intro p e s m args below meth c H locs ls C hsz hW hm hS hl
  have ok : ∀ w ∈ lw_good, w.before args s = true := fun w h => C.2.2.2.2.2.1 w (List.mem_cons_of_mem _ h)
  refine va_mmax C.1 C.2.1 (C.2.2.1.trans hl.1.symm) C.2.2.2.2.1 (ok _ (hlk _ (by simp))) (ok _ (hlk _ (by simp))) (ok _ (hlk _ (by simp))) (ok _ (hlk _ (by simp))) hfr hlo hc.1 hc.2 hd ?_
  rw [show (if gI x < gI y then gI y else gI x) = gI (if x < y then y else x) from by simp only [gI_lt hx hy]; split <;> rfl]
  exact k p e s m args below meth c H locs ls C hsz hW hm hS hl
end WCALLS
end
section
abbrev qX0_init : mD := (yX0_init, cX0_init, 1, none, 1, 12)
abbrev qX0_tell : mD := (yX0_tell, cX0_tell, 5, none, 0, 0)
abbrev qX1_init : mD := (yX1_init, cX1_init, 1, none, 1, 12)
abbrev qX1_tell : mD := (yX1_tell, cX1_tell, 4, none, 0, 0)
abbrev qX2_coverTicks : mD := (yX2_coverTicks, cX2_coverTicks, 4, none, 1, 23)
abbrev qX2_coverWhile : mD := (yX2_coverWhile, cX2_coverWhile, 4, none, 0, 0)
abbrev qX2_init : mD := (yX2_init, cX2_init, 1, none, 2, 32)
abbrev qX3_init : mD := (yX3_init, cX3_init, 1, none, 2, 32)
abbrev qX3_nextTick : mD := (yX3_nextTick, cX3_nextTick, 11, (some .int), 2, 46)
abbrev qX3_wantUnlike : mD := (yX3_wantUnlike, cX3_wantUnlike, 5, none, 0, 0)
abbrev qX3_wantValue : mD := (yX3_wantValue, cX3_wantValue, 3, none, 1, 22)
abbrev qX3_wantValueNot : mD := (yX3_wantValueNot, cX3_wantValueNot, 3, none, 2, 44)
abbrev qX4_clear : mD := (yX4_clear, cX4_clear, 1, none, 0, 0)
abbrev qX4_dropFrom : mD := (yX4_dropFrom, cX4_dropFrom, 3, (some .int), 2, 46)
abbrev qX4_init : mD := (yX4_init, cX4_init, 1, none, 1, 12)
abbrev qX4_isEdge : mD := (yX4_isEdge, cX4_isEdge, 2, (some .boolean), 1, 21)
abbrev qX4_lacksRoom : mD := (yX4_lacksRoom, cX4_lacksRoom, 2, (some .boolean), 0, 0)
abbrev qX4_lastTick : mD := (yX4_lastTick, cX4_lastTick, 1, (some .int), 1, 21)
abbrev qX4_latest : mD := (yX4_latest, cX4_latest, 6, (some .int), 1, 21)
abbrev qX4_latestEdge : mD := (yX4_latestEdge, cX4_latestEdge, 3, (some .int), 2, 46)
abbrev qX4_nextEdge : mD := (yX4_nextEdge, cX4_nextEdge, 4, (some .int), 2, 46)
abbrev qX4_put : mD := (yX4_put, cX4_put, 3, none, 0, 0)
abbrev qX4_size : mD := (yX4_size, cX4_size, 1, (some .int), 0, 0)
abbrev qX4_sumKnown : mD := (yX4_sumKnown, cX4_sumKnown, 5, (some .int), 2, 46)
abbrev qX4_tickOf : mD := (yX4_tickOf, cX4_tickOf, 2, (some .int), 0, 0)
abbrev qX4_ticksNotKnown : mD := (yX4_ticksNotKnown, cX4_ticksNotKnown, 5, (some .int), 2, 46)
abbrev qX4_ticksWithin : mD := (yX4_ticksWithin, cX4_ticksWithin, 4, (some .int), 1, 21)
abbrev qX4_turns : mD := (yX4_turns, cX4_turns, 5, (some .int), 2, 46)
abbrev qX4_valueAt : mD := (yX4_valueAt, cX4_valueAt, 2, (some .int), 2, 46)
abbrev qX4_valueOf : mD := (yX4_valueOf, cX4_valueOf, 2, (some .int), 0, 0)
abbrev qX5_clear : mD := (yX5_clear, cX5_clear, 1, none, 0, 0)
abbrev qX5_edgeFound : mD := (yX5_edgeFound, cX5_edgeFound, 2, (some .int), 0, 0)
abbrev qX5_find : mD := (yX5_find, cX5_find, 5, (some .boolean), 4, 102)
abbrev qX5_howMany : mD := (yX5_howMany, cX5_howMany, 3, (some .int), 5, 126)
abbrev qX5_init : mD := (yX5_init, cX5_init, 2, none, 3, 52)
abbrev qX5_seen : mD := (yX5_seen, cX5_seen, 1, (some .int), 0, 0)
abbrev qX5_start : mD := (yX5_start, cX5_start, 7, (some .int), 3, 76)
abbrev qX5_stop : mD := (yX5_stop, cX5_stop, 5, (some .int), 3, 76)
abbrev qX5_take : mD := (yX5_take, cX5_take, 2, (some (.object "WavePairs$Pair")), 1, 17)
abbrev qX6_act : mD := (yX6_act, cX6_act, 9, (some .int), 5, 116)
abbrev qX6_agree : mD := (yX6_agree, cX6_agree, 3, (some .boolean), 0, 0)
abbrev qX6_agreeAt : mD := (yX6_agreeAt, cX6_agreeAt, 3, (some .boolean), 3, 67)
abbrev qX6_alike : mD := (yX6_alike, cX6_alike, 4, (some .int), 4, 102)
abbrev qX6_areChanges : mD := (yX6_areChanges, cX6_areChanges, 7, (some .boolean), 2, 46)
abbrev qX6_call : mD := (yX6_call, cX6_call, 5, (some .int), 2, 42)
abbrev qX6_change : mD := (yX6_change, cX6_change, 6, (some .int), 3, 63)
abbrev qX6_changes : mD := (yX6_changes, cX6_changes, 8, (some .int), 3, 72)
abbrev qX6_channel : mD := (yX6_channel, cX6_channel, 6, (some .int), 2, 42)
abbrev qX6_count : mD := (yX6_count, cX6_count, 2, (some .int), 2, 45)
abbrev qX6_countChanges : mD := (yX6_countChanges, cX6_countChanges, 6, (some .int), 1, 20)
abbrev qX6_countChannels : mD := (yX6_countChannels, cX6_countChannels, 6, (some .int), 0, 0)
abbrev qX6_countGates : mD := (yX6_countGates, cX6_countGates, 6, (some .int), 0, 0)
abbrev qX6_cut : mD := (yX6_cut, cX6_cut, 4, (some .int), 3, 68)
abbrev qX6_dataAhead : mD := (yX6_dataAhead, cX6_dataAhead, 4, (some .int), 3, 67)
abbrev qX6_difference : mD := (yX6_difference, cX6_difference, 5, (some .int), 5, 126)
abbrev qX6_differences : mD := (yX6_differences, cX6_differences, 3, (some .int), 6, 148)
abbrev qX6_first : mD := (yX6_first, cX6_first, 3, (some .int), 4, 102)
abbrev qX6_fit : mD := (yX6_fit, cX6_fit, 3, (some .int), 5, 127)
abbrev qX6_fitsBy : mD := (yX6_fitsBy, cX6_fitsBy, 6, (some .boolean), 4, 102)
abbrev qX6_gate : mD := (yX6_gate, cX6_gate, 6, (some .int), 2, 42)
abbrev qX6_guilty : mD := (yX6_guilty, cX6_guilty, 4, (some .int), 6, 134)
abbrev qX6_hadOneAhead : mD := (yX6_hadOneAhead, cX6_hadOneAhead, 4, (some .boolean), 3, 67)
abbrev qX6_hasSignals : mD := (yX6_hasSignals, cX6_hasSignals, 3, (some .boolean), 0, 0)
abbrev qX6_holds : mD := (yX6_holds, cX6_holds, 9, (some .int), 6, 148)
abbrev qX6_init : mD := (yX6_init, cX6_init, 2, none, 4, 73)
abbrev qX6_inputsAgree : mD := (yX6_inputsAgree, cX6_inputsAgree, 3, (some .boolean), 5, 112)
abbrev qX6_isNoRow : mD := (yX6_isNoRow, cX6_isNoRow, 2, (some .boolean), 2, 42)
abbrev qX6_isNoSignal : mD := (yX6_isNoSignal, cX6_isNoSignal, 1, (some .boolean), 1, 22)
abbrev qX6_isNoValue : mD := (yX6_isNoValue, cX6_isNoValue, 1, (some .boolean), 1, 22)
abbrev qX6_mask : mD := (yX6_mask, cX6_mask, 4, (some .int), 2, 46)
abbrev qX6_maskWhile : mD := (yX6_maskWhile, cX6_maskWhile, 4, (some .int), 2, 42)
abbrev qX6_namedRow : mD := (yX6_namedRow, cX6_namedRow, 3, (some (.object "WavePairs$Row")), 1, 22)
abbrev qX6_nextAct : mD := (yX6_nextAct, cX6_nextAct, 7, (some .int), 4, 90)
abbrev qX6_noMasks : mD := (yX6_noMasks, cX6_noMasks, 2, (some .int), 0, 0)
abbrev qX6_outside : mD := (yX6_outside, cX6_outside, 3, (some .boolean), 0, 0)
abbrev qX6_packed : mD := (yX6_packed, cX6_packed, 4, (some .int), 0, 0)
abbrev qX6_packedTicks : mD := (yX6_packedTicks, cX6_packedTicks, 4, (some .int), 1, 23)
abbrev qX6_packedValue : mD := (yX6_packedValue, cX6_packedValue, 4, (some .int), 1, 23)
abbrev qX6_rowOf : mD := (yX6_rowOf, cX6_rowOf, 3, (some (.object "WavePairs$Row")), 0, 0)
abbrev qX6_rule : mD := (yX6_rule, cX6_rule, 4, (some .int), 1, 22)
abbrev qX6_seekDifferences : mD := (yX6_seekDifferences, cX6_seekDifferences, 5, none, 3, 66)
abbrev qX6_shift : mD := (yX6_shift, cX6_shift, 4, (some .int), 1, 22)
abbrev qX6_storedAgree : mD := (yX6_storedAgree, cX6_storedAgree, 4, (some .boolean), 4, 89)
abbrev qX6_unlike : mD := (yX6_unlike, cX6_unlike, 6, (some .int), 5, 116)
abbrev qX6_value : mD := (yX6_value, cX6_value, 4, (some .int), 3, 67)
abbrev qX6_window : mD := (yX6_window, cX6_window, 7, (some .int), 3, 70)
abbrev qX7_act : mD := (yX7_act, cX7_act, 6, (some .int), 3, 76)
abbrev qX7_acts : mD := (yX7_acts, cX7_acts, 8, (some .int), 2, 49)
abbrev qX7_agree : mD := (yX7_agree, cX7_agree, 3, (some .boolean), 0, 0)
abbrev qX7_agreeAt : mD := (yX7_agreeAt, cX7_agreeAt, 3, (some .boolean), 1, 26)
abbrev qX7_alike : mD := (yX7_alike, cX7_alike, 4, (some .int), 2, 50)
abbrev qX7_at : mD := (yX7_at, cX7_at, 7, (some .int), 0, 0)
abbrev qX7_behave : mD := (yX7_behave, cX7_behave, 5, (some .boolean), 1, 26)
abbrev qX7_call : mD := (yX7_call, cX7_call, 5, (some .int), 2, 42)
abbrev qX7_called : mD := (yX7_called, cX7_called, 3, (some .int), 0, 0)
abbrev qX7_change : mD := (yX7_change, cX7_change, 6, (some .int), 3, 63)
abbrev qX7_changes : mD := (yX7_changes, cX7_changes, 10, (some .int), 3, 63)
abbrev qX7_channel : mD := (yX7_channel, cX7_channel, 6, (some .int), 2, 42)
abbrev qX7_count : mD := (yX7_count, cX7_count, 6, (some .int), 0, 0)
abbrev qX7_cut : mD := (yX7_cut, cX7_cut, 6, (some .int), 3, 63)
abbrev qX7_difference : mD := (yX7_difference, cX7_difference, 3, (some .int), 4, 100)
abbrev qX7_differences : mD := (yX7_differences, cX7_differences, 1, (some .int), 4, 100)
abbrev qX7_differs : mD := (yX7_differs, cX7_differs, 4, (some .boolean), 2, 50)
abbrev qX7_edge : mD := (yX7_edge, cX7_edge, 6, (some .int), 2, 49)
abbrev qX7_first : mD := (yX7_first, cX7_first, 5, (some .int), 3, 73)
abbrev qX7_fit : mD := (yX7_fit, cX7_fit, 4, (some .int), 4, 100)
abbrev qX7_fits : mD := (yX7_fits, cX7_fits, 8, (some .boolean), 3, 73)
abbrev qX7_found : mD := (yX7_found, cX7_found, 6, (some .int), 0, 0)
abbrev qX7_gate : mD := (yX7_gate, cX7_gate, 6, (some .int), 2, 42)
abbrev qX7_guilty : mD := (yX7_guilty, cX7_guilty, 3, (some .int), 4, 98)
abbrev qX7_holds : mD := (yX7_holds, cX7_holds, 15, (some .int), 3, 63)
abbrev qX7_in : mD := (yX7_in, cX7_in, 3, (some .boolean), 0, 0)
abbrev qX7_init : mD := (yX7_init, cX7_init, 2, none, 1, 12)
abbrev qX7_inputsAgree : mD := (yX7_inputsAgree, cX7_inputsAgree, 5, (some .boolean), 3, 74)
abbrev qX7_isEdge : mD := (yX7_isEdge, cX7_isEdge, 4, (some .boolean), 1, 26)
abbrev qX7_isMasked : mD := (yX7_isMasked, cX7_isMasked, 5, (some .boolean), 1, 26)
abbrev qX7_isRow : mD := (yX7_isRow, cX7_isRow, 2, (some .boolean), 2, 42)
abbrev qX7_isSignal : mD := (yX7_isSignal, cX7_isSignal, 1, (some .boolean), 1, 22)
abbrev qX7_last : mD := (yX7_last, cX7_last, 2, (some .int), 0, 0)
abbrev qX7_lays : mD := (yX7_lays, cX7_lays, 4, none, 0, 0)
abbrev qX7_least : mD := (yX7_least, cX7_least, 2, (some .int), 0, 0)
abbrev qX7_mask : mD := (yX7_mask, cX7_mask, 4, (some .int), 2, 42)
abbrev qX7_maskWhile : mD := (yX7_maskWhile, cX7_maskWhile, 4, (some .int), 2, 42)
abbrev qX7_masked : mD := (yX7_masked, cX7_masked, 5, (some .int), 0, 0)
abbrev qX7_next : mD := (yX7_next, cX7_next, 6, (some .int), 1, 25)
abbrev qX7_nextChange : mD := (yX7_nextChange, cX7_nextChange, 6, (some .int), 0, 0)
abbrev qX7_noMasks : mD := (yX7_noMasks, cX7_noMasks, 2, (some .int), 0, 0)
abbrev qX7_rule : mD := (yX7_rule, cX7_rule, 4, (some .int), 1, 22)
abbrev qX7_shift : mD := (yX7_shift, cX7_shift, 4, (some .int), 1, 22)
abbrev qX7_spans : mD := (yX7_spans, cX7_spans, 8, (some .int), 3, 73)
abbrev qX7_unlike : mD := (yX7_unlike, cX7_unlike, 7, (some .int), 3, 76)
abbrev qX7_value : mD := (yX7_value, cX7_value, 4, (some .int), 3, 63)
abbrev qX7_window : mD := (yX7_window, cX7_window, 11, (some .int), 3, 63)
end
section
theorem iX0 : ∀ w ∈ u_ws RX0 TX0 5, w ∈ lw_good := by decide +kernel
theorem iX1 : ∀ w ∈ u_ws RX1 TX1 3, w ∈ lw_good := by decide +kernel
theorem iX2 : ∀ w ∈ u_ws RX2 TX2 4, w ∈ lw_good := by decide +kernel
theorem iX3 : ∀ w ∈ u_ws RX3 TX3 6, w ∈ lw_good := by decide +kernel
theorem iX4 : ∀ w ∈ u_ws RX4 TX4 3, w ∈ lw_good := by decide +kernel
theorem iX5 : ∀ w ∈ u_ws RX5 TX5 5, w ∈ lw_good := by decide +kernel
theorem iX6 : ∀ w ∈ u_ws RX6 TX6 11, w ∈ lw_good := by decide +kernel
theorem iX7 : ∀ w ∈ u_ws RX7 TX7 23, w ∈ lw_good := by decide +kernel
theorem pf_X0_7 : lkP RX0 7 0 0 (tyX0 0) := ⟨_, _, _, tyX0, rfl, by decide, iX0, by decide +kernel, rfl, tyX0_ok, nmX0, rfl⟩
theorem pf_X0_13 : lkP RX0 13 0 1 (tyX0 1) := ⟨_, _, _, tyX0, rfl, by decide, iX0, by decide +kernel, rfl, tyX0_ok, nmX0, rfl⟩
theorem pf_X0_17 : lkP RX0 17 0 2 (tyX0 2) := ⟨_, _, _, tyX0, rfl, by decide, iX0, by decide +kernel, rfl, tyX0_ok, nmX0, rfl⟩
theorem pf_X0_20 : lkP RX0 20 0 3 (tyX0 3) := ⟨_, _, _, tyX0, rfl, by decide, iX0, by decide +kernel, rfl, tyX0_ok, nmX0, rfl⟩
theorem pf_X0_23 : lkP RX0 23 0 4 (tyX0 4) := ⟨_, _, _, tyX0, rfl, by decide, iX0, by decide +kernel, rfl, tyX0_ok, nmX0, rfl⟩
theorem pf_X1_9 : lkP RX1 9 1 0 (tyX1 0) := ⟨_, _, _, tyX1, rfl, by decide, iX1, by decide +kernel, rfl, tyX1_ok, nmX1, rfl⟩
theorem pf_X1_15 : lkP RX1 15 1 1 (tyX1 1) := ⟨_, _, _, tyX1, rfl, by decide, iX1, by decide +kernel, rfl, tyX1_ok, nmX1, rfl⟩
theorem pf_X1_18 : lkP RX1 18 1 2 (tyX1 2) := ⟨_, _, _, tyX1, rfl, by decide, iX1, by decide +kernel, rfl, tyX1_ok, nmX1, rfl⟩
theorem gf_X2_10 : lkF RX2 10 2 0 := ⟨_, _, _, rfl, by decide, iX2, by decide +kernel⟩
theorem lc_X2_26 : lkV RX2 26 qX4_clear 0 := ⟨by decide +kernel, by decide +kernel, by decide +kernel, by decide +kernel⟩
theorem lc_X2_29 : lkV RX2 29 qX4_put 2 := ⟨by decide +kernel, by decide +kernel, by decide +kernel, by decide +kernel⟩
theorem lc_X2_33 : lkV RX2 33 qX2_coverWhile 3 := ⟨by decide +kernel, by decide +kernel, by decide +kernel, by decide +kernel⟩
theorem pf_X2_16 : lkP RX2 16 2 1 (tyX2 1) := ⟨_, _, _, tyX2, rfl, by decide, iX2, by decide +kernel, rfl, tyX2_ok, nmX2, rfl⟩
theorem pf_X2_20 : lkP RX2 20 2 2 (tyX2 2) := ⟨_, _, _, tyX2, rfl, by decide, iX2, by decide +kernel, rfl, tyX2_ok, nmX2, rfl⟩
theorem pf_X2_23 : lkP RX2 23 2 3 (tyX2 3) := ⟨_, _, _, tyX2, rfl, by decide, iX2, by decide +kernel, rfl, tyX2_ok, nmX2, rfl⟩
theorem lc_X2_9 : lkIN RX2 9 qX4_init 0 := ⟨"WavePairs", by decide +kernel, by decide +kernel, rfl, rfl, by decide +kernel, by decide +kernel, by decide +kernel⟩
theorem pf_X2_10 : lkPF RX2 10 2 0 (tyX2 0) := ⟨_, _, _, tyX2, rfl, by decide, iX2, by decide +kernel, rfl, rfl, tyX2_ok, nmX2, rfl⟩
theorem lc_X3_11 : lkIN RX3 11 qX4_init 0 := ⟨"WavePairs", by decide +kernel, by decide +kernel, rfl, rfl, by decide +kernel, by decide +kernel, by decide +kernel⟩
theorem pf_X3_12 : lkPF RX3 12 3 0 (tyX3 0) := ⟨_, _, _, tyX3, rfl, by decide, iX3, by decide +kernel, rfl, rfl, tyX3_ok, nmX3, rfl⟩
theorem gf_X3_12 : lkF RX3 12 3 0 := ⟨_, _, _, rfl, by decide, iX3, by decide +kernel⟩
theorem pf_X3_18 : lkP RX3 18 3 1 (tyX3 1) := ⟨_, _, _, tyX3, rfl, by decide, iX3, by decide +kernel, rfl, tyX3_ok, nmX3, rfl⟩
theorem pf_X3_21 : lkP RX3 21 3 2 (tyX3 2) := ⟨_, _, _, tyX3, rfl, by decide, iX3, by decide +kernel, rfl, tyX3_ok, nmX3, rfl⟩
theorem pf_X3_24 : lkP RX3 24 3 3 (tyX3 3) := ⟨_, _, _, tyX3, rfl, by decide, iX3, by decide +kernel, rfl, tyX3_ok, nmX3, rfl⟩
theorem pf_X3_28 : lkP RX3 28 3 4 (tyX3 4) := ⟨_, _, _, tyX3, rfl, by decide, iX3, by decide +kernel, rfl, tyX3_ok, nmX3, rfl⟩
theorem pf_X3_32 : lkP RX3 32 3 5 (tyX3 5) := ⟨_, _, _, tyX3, rfl, by decide, iX3, by decide +kernel, rfl, tyX3_ok, nmX3, rfl⟩
theorem gf_X3_32 : lkF RX3 32 3 5 := ⟨_, _, _, rfl, by decide, iX3, by decide +kernel⟩
theorem gf_X3_18 : lkF RX3 18 3 1 := ⟨_, _, _, rfl, by decide, iX3, by decide +kernel⟩
theorem lc_X3_46 : lkV RX3 46 qX4_latest 1 := ⟨by decide +kernel, by decide +kernel, by decide +kernel, by decide +kernel⟩
theorem gf_X3_21 : lkF RX3 21 3 2 := ⟨_, _, _, rfl, by decide, iX3, by decide +kernel⟩
theorem gf_X3_24 : lkF RX3 24 3 3 := ⟨_, _, _, rfl, by decide, iX3, by decide +kernel⟩
theorem lc_X3_50 : lkV RX3 50 qX4_valueOf 1 := ⟨by decide +kernel, by decide +kernel, by decide +kernel, by decide +kernel⟩
theorem gf_X3_28 : lkF RX3 28 3 4 := ⟨_, _, _, rfl, by decide, iX3, by decide +kernel⟩
theorem lc_X3_53 : lkSN RX3 53 qX6_agree 3 := ⟨"WavePairs", by decide +kernel, by decide +kernel, by decide +kernel, by decide +kernel, by decide +kernel⟩
theorem lc_X3_57 : lkV RX3 57 qX4_tickOf 1 := ⟨by decide +kernel, by decide +kernel, by decide +kernel, by decide +kernel⟩
theorem lc_X3_60 : lkM RX3 60 Lib.Math.min.name Lib.Math.min.code := by unfold lkM; decide +kernel
theorem lc_X3_35 : lkV RX3 35 qX4_clear 0 := ⟨by decide +kernel, by decide +kernel, by decide +kernel, by decide +kernel⟩
theorem lc_X3_38 : lkV RX3 38 qX4_put 2 := ⟨by decide +kernel, by decide +kernel, by decide +kernel, by decide +kernel⟩
theorem lc_X3_42 : lkV RX3 42 qX3_wantValue 2 := ⟨by decide +kernel, by decide +kernel, by decide +kernel, by decide +kernel⟩
theorem pf_X4_18 : lkP RX4 18 4 2 (tyX4 2) := ⟨_, _, _, tyX4, rfl, by decide, iX4, by decide +kernel, rfl, tyX4_ok, nmX4, rfl⟩
theorem gf_X4_18 : lkF RX4 18 4 2 := ⟨_, _, _, rfl, by decide, iX4, by decide +kernel⟩
theorem lc_X4_22 : lkV RX4 22 qX4_latest 1 := ⟨by decide +kernel, by decide +kernel, by decide +kernel, by decide +kernel⟩
theorem pf_X4_9 : lkPF RX4 9 4 0 (tyX4 0) := ⟨_, _, _, tyX4, rfl, by decide, iX4, by decide +kernel, rfl, rfl, tyX4_ok, nmX4, rfl⟩
theorem pf_X4_15 : lkPF RX4 15 4 1 (tyX4 1) := ⟨_, _, _, tyX4, rfl, by decide, iX4, by decide +kernel, rfl, rfl, tyX4_ok, nmX4, rfl⟩
theorem lc_X4_26 : lkV RX4 26 qX4_tickOf 1 := ⟨by decide +kernel, by decide +kernel, by decide +kernel, by decide +kernel⟩
theorem lc_X4_30 : lkV RX4 30 qX4_valueOf 1 := ⟨by decide +kernel, by decide +kernel, by decide +kernel, by decide +kernel⟩
theorem lc_X4_33 : lkV RX4 33 qX4_isEdge 1 := ⟨by decide +kernel, by decide +kernel, by decide +kernel, by decide +kernel⟩
theorem gf_X4_9 : lkF RX4 9 4 0 := ⟨_, _, _, rfl, by decide, iX4, by decide +kernel⟩
theorem gf_X4_15 : lkF RX4 15 4 1 := ⟨_, _, _, rfl, by decide, iX4, by decide +kernel⟩
theorem lc_X4_37 : lkV RX4 37 qX4_ticksWithin 3 := ⟨by decide +kernel, by decide +kernel, by decide +kernel, by decide +kernel⟩
theorem lc_X4_41 : lkM RX4 41 Lib.Math.min.name Lib.Math.min.code := by unfold lkM; decide +kernel
theorem lc_X4_47 : lkM RX4 47 Lib.Math.max.name Lib.Math.max.code := by unfold lkM; decide +kernel
theorem pf_X5_17 : lkP RX5 17 5 1 (tyX5 1) := ⟨_, _, _, tyX5, rfl, by decide, iX5, by decide +kernel, rfl, tyX5_ok, nmX5, rfl⟩
theorem gf_X5_24 : lkF RX5 24 5 3 := ⟨_, _, _, rfl, by decide, iX5, by decide +kernel⟩
theorem gf_X5_27 : lkF RX5 27 5 4 := ⟨_, _, _, rfl, by decide, iX5, by decide +kernel⟩
theorem pf_X5_21 : lkP RX5 21 5 2 (tyX5 2) := ⟨_, _, _, tyX5, rfl, by decide, iX5, by decide +kernel, rfl, tyX5_ok, nmX5, rfl⟩
theorem lc_X5_41 : lkV RX5 41 qX5_start 2 := ⟨by decide +kernel, by decide +kernel, by decide +kernel, by decide +kernel⟩
theorem pf_X5_24 : lkP RX5 24 5 3 (tyX5 3) := ⟨_, _, _, tyX5, rfl, by decide, iX5, by decide +kernel, rfl, tyX5_ok, nmX5, rfl⟩
theorem lc_X5_44 : lkV RX5 44 qX5_stop 2 := ⟨by decide +kernel, by decide +kernel, by decide +kernel, by decide +kernel⟩
theorem pf_X5_27 : lkP RX5 27 5 4 (tyX5 4) := ⟨_, _, _, tyX5, rfl, by decide, iX5, by decide +kernel, rfl, tyX5_ok, nmX5, rfl⟩
theorem gf_X5_21 : lkF RX5 21 5 2 := ⟨_, _, _, rfl, by decide, iX5, by decide +kernel⟩
theorem lc_X5_47 : lkV RX5 47 qX5_find 3 := ⟨by decide +kernel, by decide +kernel, by decide +kernel, by decide +kernel⟩
theorem pf_X5_11 : lkPF RX5 11 5 0 (tyX5 0) := ⟨_, _, _, tyX5, rfl, by decide, iX5, by decide +kernel, rfl, rfl, tyX5_ok, nmX5, rfl⟩
theorem gf_X5_11 : lkF RX5 11 5 0 := ⟨_, _, _, rfl, by decide, iX5, by decide +kernel⟩
theorem lc_X5_30 : lkIN RX5 30 qX3_init 0 := ⟨"WavePairs", by decide +kernel, by decide +kernel, rfl, rfl, by decide +kernel, by decide +kernel, by decide +kernel⟩
theorem gf_X5_17 : lkF RX5 17 5 1 := ⟨_, _, _, rfl, by decide, iX5, by decide +kernel⟩
theorem lc_X5_37 : lkV RX5 37 qX3_nextTick 3 := ⟨by decide +kernel, by decide +kernel, by decide +kernel, by decide +kernel⟩
theorem lc_X5_31 : lkM RX5 31 Lib.Math.min.name Lib.Math.min.code := by unfold lkM; decide +kernel
theorem lc_X6_69 : lkS RX6 69 qX6_outside 3 := ⟨by decide +kernel, rfl, by decide +kernel, by decide +kernel, by decide +kernel⟩
theorem gf_X6_33 : lkF RX6 33 6 5 := ⟨_, _, _, rfl, by decide, iX6, by decide +kernel⟩
theorem gf_X6_181 : lkN RX6 181 0 0 := ⟨_, _, _, "WavePairs", rfl, by decide, iX0, by decide +kernel⟩
theorem lc_X6_184 : lkV RX6 184 qX6_nextAct 3 := ⟨by decide +kernel, by decide +kernel, by decide +kernel, by decide +kernel⟩
theorem lc_X6_188 : lkV RX6 188 qX6_dataAhead 3 := ⟨by decide +kernel, by decide +kernel, by decide +kernel, by decide +kernel⟩
theorem lc_X6_77 : lkV RX6 77 qX6_rowOf 2 := ⟨by decide +kernel, by decide +kernel, by decide +kernel, by decide +kernel⟩
theorem lc_X6_110 : lkV RX6 110 qX4_valueAt 1 := ⟨by decide +kernel, by decide +kernel, by decide +kernel, by decide +kernel⟩
theorem lc_X6_154 : lkV RX6 154 qX6_namedRow 2 := ⟨by decide +kernel, by decide +kernel, by decide +kernel, by decide +kernel⟩
theorem gf_X6_57 : lkF RX6 57 6 10 := ⟨_, _, _, rfl, by decide, iX6, by decide +kernel⟩
theorem lc_X6_191 : lkS RX6 191 qX6_agree 3 := ⟨by decide +kernel, rfl, by decide +kernel, by decide +kernel, by decide +kernel⟩
theorem lc_X6_117 : lkS RX6 117 qX6_isNoSignal 1 := ⟨by decide +kernel, rfl, by decide +kernel, by decide +kernel, by decide +kernel⟩
theorem gf_X6_46 : lkF RX6 46 6 7 := ⟨_, _, _, rfl, by decide, iX6, by decide +kernel⟩
theorem lc_X6_147 : lkV RX6 147 qX5_clear 0 := ⟨by decide +kernel, by decide +kernel, by decide +kernel, by decide +kernel⟩
theorem lc_X6_150 : lkV RX6 150 qX5_take 0 := ⟨by decide +kernel, by decide +kernel, by decide +kernel, by decide +kernel⟩
theorem lc_X6_157 : lkV RX6 157 qX3_wantUnlike 4 := ⟨by decide +kernel, by decide +kernel, by decide +kernel, by decide +kernel⟩
theorem gf_X6_54 : lkF RX6 54 6 9 := ⟨_, _, _, rfl, by decide, iX6, by decide +kernel⟩
theorem lc_X6_144 : lkV RX6 144 qX5_start 2 := ⟨by decide +kernel, by decide +kernel, by decide +kernel, by decide +kernel⟩
theorem lc_X6_99 : lkS RX6 99 qX6_packedTicks 3 := ⟨by decide +kernel, rfl, by decide +kernel, by decide +kernel, by decide +kernel⟩
theorem lc_X6_103 : lkS RX6 103 qX6_packedValue 3 := ⟨by decide +kernel, rfl, by decide +kernel, by decide +kernel, by decide +kernel⟩
theorem lc_X6_73 : lkS RX6 73 qX6_isNoValue 1 := ⟨by decide +kernel, rfl, by decide +kernel, by decide +kernel, by decide +kernel⟩
theorem gf_X6_15 : lkF RX6 15 6 1 := ⟨_, _, _, rfl, by decide, iX6, by decide +kernel⟩
theorem gf_X6_19 : lkF RX6 19 6 2 := ⟨_, _, _, rfl, by decide, iX6, by decide +kernel⟩
theorem lc_X6_65 : lkS RX6 65 qX6_isNoRow 2 := ⟨by decide +kernel, rfl, by decide +kernel, by decide +kernel, by decide +kernel⟩
theorem lc_X6_81 : lkV RX6 81 qX4_lastTick 0 := ⟨by decide +kernel, by decide +kernel, by decide +kernel, by decide +kernel⟩
theorem lc_X6_85 : lkV RX6 85 qX4_lacksRoom 1 := ⟨by decide +kernel, by decide +kernel, by decide +kernel, by decide +kernel⟩
theorem lc_X6_88 : lkV RX6 88 qX4_put 2 := ⟨by decide +kernel, by decide +kernel, by decide +kernel, by decide +kernel⟩
theorem lc_X6_92 : lkV RX6 92 qX4_size 0 := ⟨by decide +kernel, by decide +kernel, by decide +kernel, by decide +kernel⟩
theorem lc_X6_95 : lkS RX6 95 qX6_areChanges 3 := ⟨by decide +kernel, rfl, by decide +kernel, by decide +kernel, by decide +kernel⟩
theorem lc_X6_177 : lkV RX6 177 qX0_tell 4 := ⟨by decide +kernel, by decide +kernel, by decide +kernel, by decide +kernel⟩
theorem lc_X6_263 : lkV RX6 263 qX6_countChanges 0 := ⟨by decide +kernel, by decide +kernel, by decide +kernel, by decide +kernel⟩
theorem gf_X6_50 : lkF RX6 50 6 8 := ⟨_, _, _, rfl, by decide, iX6, by decide +kernel⟩
theorem lc_X6_266 : lkV RX6 266 qX6_countChannels 0 := ⟨by decide +kernel, by decide +kernel, by decide +kernel, by decide +kernel⟩
theorem lc_X6_269 : lkV RX6 269 qX6_countGates 0 := ⟨by decide +kernel, by decide +kernel, by decide +kernel, by decide +kernel⟩
theorem gf_X6_11 : lkF RX6 11 6 0 := ⟨_, _, _, rfl, by decide, iX6, by decide +kernel⟩
theorem gf_X6_39 : lkF RX6 39 6 6 := ⟨_, _, _, rfl, by decide, iX6, by decide +kernel⟩
theorem gf_X6_227 : lkN RX6 227 1 0 := ⟨_, _, _, "WavePairs", rfl, by decide, iX1, by decide +kernel⟩
theorem lc_X6_106 : lkV RX6 106 qX4_dropFrom 1 := ⟨by decide +kernel, by decide +kernel, by decide +kernel, by decide +kernel⟩
theorem gf_X6_210 : lkN RX6 210 0 4 := ⟨_, _, _, "WavePairs", rfl, by decide, iX0, by decide +kernel⟩
theorem gf_X6_22 : lkF RX6 22 6 3 := ⟨_, _, _, rfl, by decide, iX6, by decide +kernel⟩
theorem lc_X6_128 : lkV RX6 128 qX6_seekDifferences 2 := ⟨by decide +kernel, by decide +kernel, by decide +kernel, by decide +kernel⟩
theorem lc_X6_135 : lkV RX6 135 qX5_find 3 := ⟨by decide +kernel, by decide +kernel, by decide +kernel, by decide +kernel⟩
theorem lc_X6_138 : lkV RX6 138 qX5_edgeFound 1 := ⟨by decide +kernel, by decide +kernel, by decide +kernel, by decide +kernel⟩
theorem lc_X6_141 : lkV RX6 141 qX5_seen 0 := ⟨by decide +kernel, by decide +kernel, by decide +kernel, by decide +kernel⟩
theorem lc_X6_131 : lkV RX6 131 qX5_howMany 2 := ⟨by decide +kernel, by decide +kernel, by decide +kernel, by decide +kernel⟩
theorem lc_X6_213 : lkV RX6 213 qX6_hasSignals 1 := ⟨by decide +kernel, by decide +kernel, by decide +kernel, by decide +kernel⟩
theorem lc_X6_216 : lkV RX6 216 qX6_fitsBy 2 := ⟨by decide +kernel, by decide +kernel, by decide +kernel, by decide +kernel⟩
theorem lc_X6_219 : lkM RX6 219 Lib.Math.max.name Lib.Math.max.code := by unfold lkM; decide +kernel
theorem lc_X6_224 : lkM RX6 224 Lib.Math.min.name Lib.Math.min.code := by unfold lkM; decide +kernel
theorem lc_X6_230 : lkV RX6 230 qX1_tell 3 := ⟨by decide +kernel, by decide +kernel, by decide +kernel, by decide +kernel⟩
theorem lc_X6_232 : lkV RX6 232 qX6_agreeAt 2 := ⟨by decide +kernel, by decide +kernel, by decide +kernel, by decide +kernel⟩
theorem lc_X6_235 : lkV RX6 235 qX6_inputsAgree 2 := ⟨by decide +kernel, by decide +kernel, by decide +kernel, by decide +kernel⟩
theorem lc_X6_251 : lkV RX6 251 qX3_wantValue 2 := ⟨by decide +kernel, by decide +kernel, by decide +kernel, by decide +kernel⟩
theorem lc_X6_173 : lkV RX6 173 qX3_wantValueNot 2 := ⟨by decide +kernel, by decide +kernel, by decide +kernel, by decide +kernel⟩
theorem pf_X6_11 : lkPF RX6 11 6 0 (tyX6 0) := ⟨_, _, _, tyX6, rfl, by decide, iX6, by decide +kernel, rfl, rfl, tyX6_ok, nmX6, rfl⟩
theorem pf_X6_15 : lkPF RX6 15 6 1 (tyX6 1) := ⟨_, _, _, tyX6, rfl, by decide, iX6, by decide +kernel, rfl, rfl, tyX6_ok, nmX6, rfl⟩
theorem pf_X6_19 : lkPF RX6 19 6 2 (tyX6 2) := ⟨_, _, _, tyX6, rfl, by decide, iX6, by decide +kernel, rfl, rfl, tyX6_ok, nmX6, rfl⟩
theorem pf_X6_22 : lkPF RX6 22 6 3 (tyX6 3) := ⟨_, _, _, tyX6, rfl, by decide, iX6, by decide +kernel, rfl, rfl, tyX6_ok, nmX6, rfl⟩
theorem pf_X6_27 : lkPF RX6 27 6 4 (tyX6 4) := ⟨_, _, _, tyX6, rfl, by decide, iX6, by decide +kernel, rfl, rfl, tyX6_ok, nmX6, rfl⟩
theorem pf_X6_33 : lkPF RX6 33 6 5 (tyX6 5) := ⟨_, _, _, tyX6, rfl, by decide, iX6, by decide +kernel, rfl, rfl, tyX6_ok, nmX6, rfl⟩
theorem pf_X6_39 : lkPF RX6 39 6 6 (tyX6 6) := ⟨_, _, _, tyX6, rfl, by decide, iX6, by decide +kernel, rfl, rfl, tyX6_ok, nmX6, rfl⟩
theorem lc_X6_45 : lkI RX6 45 qX5_init 0 := ⟨by decide +kernel, rfl, rfl, by decide +kernel, by decide +kernel, by decide +kernel⟩
theorem pf_X6_46 : lkPF RX6 46 6 7 (tyX6 7) := ⟨_, _, _, tyX6, rfl, by decide, iX6, by decide +kernel, rfl, rfl, tyX6_ok, nmX6, rfl⟩
theorem pf_X6_50 : lkP RX6 50 6 8 (tyX6 8) := ⟨_, _, _, tyX6, rfl, by decide, iX6, by decide +kernel, rfl, tyX6_ok, nmX6, rfl⟩
theorem pf_X6_54 : lkP RX6 54 6 9 (tyX6 9) := ⟨_, _, _, tyX6, rfl, by decide, iX6, by decide +kernel, rfl, tyX6_ok, nmX6, rfl⟩
theorem pf_X6_57 : lkP RX6 57 6 10 (tyX6 10) := ⟨_, _, _, tyX6, rfl, by decide, iX6, by decide +kernel, rfl, tyX6_ok, nmX6, rfl⟩
theorem lc_X6_61 : lkIN RX6 61 qX4_init 0 := ⟨"WavePairs", by decide +kernel, by decide +kernel, rfl, rfl, by decide +kernel, by decide +kernel, by decide +kernel⟩
theorem lc_X6_62 : lkIN RX6 62 qX1_init 0 := ⟨"WavePairs", by decide +kernel, by decide +kernel, rfl, rfl, by decide +kernel, by decide +kernel, by decide +kernel⟩
theorem gf_X6_27 : lkF RX6 27 6 4 := ⟨_, _, _, rfl, by decide, iX6, by decide +kernel⟩
theorem lc_X6_63 : lkIN RX6 63 qX2_init 0 := ⟨"WavePairs", by decide +kernel, by decide +kernel, rfl, rfl, by decide +kernel, by decide +kernel, by decide +kernel⟩
theorem lc_X6_64 : lkIN RX6 64 qX0_init 0 := ⟨"WavePairs", by decide +kernel, by decide +kernel, rfl, rfl, by decide +kernel, by decide +kernel, by decide +kernel⟩
theorem lc_X6_239 : lkV RX6 239 qX6_storedAgree 2 := ⟨by decide +kernel, by decide +kernel, by decide +kernel, by decide +kernel⟩
theorem gf_X6_242 : lkN RX6 242 1 1 := ⟨_, _, _, "WavePairs", rfl, by decide, iX1, by decide +kernel⟩
theorem gf_X6_245 : lkN RX6 245 1 2 := ⟨_, _, _, "WavePairs", rfl, by decide, iX1, by decide +kernel⟩
theorem lc_X6_120 : lkV RX6 120 qX2_coverTicks 3 := ⟨by decide +kernel, by decide +kernel, by decide +kernel, by decide +kernel⟩
theorem lc_X6_124 : lkV RX6 124 qX2_coverWhile 3 := ⟨by decide +kernel, by decide +kernel, by decide +kernel, by decide +kernel⟩
theorem gf_X6_195 : lkN RX6 195 0 1 := ⟨_, _, _, "WavePairs", rfl, by decide, iX0, by decide +kernel⟩
theorem lc_X6_198 : lkV RX6 198 qX4_nextEdge 2 := ⟨by decide +kernel, by decide +kernel, by decide +kernel, by decide +kernel⟩
theorem gf_X6_201 : lkN RX6 201 0 2 := ⟨_, _, _, "WavePairs", rfl, by decide, iX0, by decide +kernel⟩
theorem lc_X6_204 : lkV RX6 204 qX6_hadOneAhead 3 := ⟨by decide +kernel, by decide +kernel, by decide +kernel, by decide +kernel⟩
theorem gf_X6_207 : lkN RX6 207 0 3 := ⟨_, _, _, "WavePairs", rfl, by decide, iX0, by decide +kernel⟩
theorem lc_X6_113 : lkS RX6 113 qX6_packed 3 := ⟨by decide +kernel, rfl, by decide +kernel, by decide +kernel, by decide +kernel⟩
theorem gf_X6_163 : lkN RX6 163 2 1 := ⟨_, _, _, "WavePairs", rfl, by decide, iX2, by decide +kernel⟩
theorem gf_X6_166 : lkN RX6 166 2 2 := ⟨_, _, _, "WavePairs", rfl, by decide, iX2, by decide +kernel⟩
theorem gf_X6_170 : lkN RX6 170 2 3 := ⟨_, _, _, "WavePairs", rfl, by decide, iX2, by decide +kernel⟩
theorem lc_X6_248 : lkV RX6 248 qX4_latestEdge 1 := ⟨by decide +kernel, by decide +kernel, by decide +kernel, by decide +kernel⟩
theorem lc_X6_254 : lkV RX6 254 qX4_turns 2 := ⟨by decide +kernel, by decide +kernel, by decide +kernel, by decide +kernel⟩
theorem lc_X6_257 : lkV RX6 257 qX4_ticksNotKnown 2 := ⟨by decide +kernel, by decide +kernel, by decide +kernel, by decide +kernel⟩
theorem lc_X6_260 : lkV RX6 260 qX4_sumKnown 2 := ⟨by decide +kernel, by decide +kernel, by decide +kernel, by decide +kernel⟩
theorem lc_X7_60 : lkS RX7 60 qX7_in 3 := ⟨by decide +kernel, rfl, by decide +kernel, by decide +kernel, by decide +kernel⟩
theorem gf_X7_44 : lkF RX7 44 7 13 := ⟨_, _, _, rfl, by decide, iX7, by decide +kernel⟩
theorem lc_X7_144 : lkV RX7 144 qX7_acts 3 := ⟨by decide +kernel, by decide +kernel, by decide +kernel, by decide +kernel⟩
theorem gf_X7_138 : lkF RX7 138 7 21 := ⟨_, _, _, rfl, by decide, iX7, by decide +kernel⟩
theorem gf_X7_141 : lkF RX7 141 7 22 := ⟨_, _, _, rfl, by decide, iX7, by decide +kernel⟩
theorem gf_X7_48 : lkF RX7 48 7 14 := ⟨_, _, _, rfl, by decide, iX7, by decide +kernel⟩
theorem lc_X7_132 : lkV RX7 132 qX7_called 2 := ⟨by decide +kernel, by decide +kernel, by decide +kernel, by decide +kernel⟩
theorem lc_X7_103 : lkV RX7 103 qX7_nextChange 3 := ⟨by decide +kernel, by decide +kernel, by decide +kernel, by decide +kernel⟩
theorem gf_X7_7 : lkF RX7 7 7 0 := ⟨_, _, _, rfl, by decide, iX7, by decide +kernel⟩
theorem lc_X7_135 : lkV RX7 135 qX7_isEdge 3 := ⟨by decide +kernel, by decide +kernel, by decide +kernel, by decide +kernel⟩
theorem lc_X7_83 : lkV RX7 83 qX7_at 3 := ⟨by decide +kernel, by decide +kernel, by decide +kernel, by decide +kernel⟩
theorem pf_X7_138 : lkP RX7 138 7 21 (tyX7 21) := ⟨_, _, _, tyX7, rfl, by decide, iX7, by decide +kernel, rfl, tyX7_ok, nmX7, rfl⟩
theorem pf_X7_141 : lkP RX7 141 7 22 (tyX7 22) := ⟨_, _, _, tyX7, rfl, by decide, iX7, by decide +kernel, rfl, tyX7_ok, nmX7, rfl⟩
theorem gf_X7_87 : lkF RX7 87 7 1 := ⟨_, _, _, rfl, by decide, iX7, by decide +kernel⟩
theorem gf_X7_23 : lkF RX7 23 7 5 := ⟨_, _, _, rfl, by decide, iX7, by decide +kernel⟩
theorem lc_X7_97 : lkV RX7 97 qX7_agree 2 := ⟨by decide +kernel, by decide +kernel, by decide +kernel, by decide +kernel⟩
theorem lc_X7_64 : lkS RX7 64 qX7_isSignal 1 := ⟨by decide +kernel, rfl, by decide +kernel, by decide +kernel, by decide +kernel⟩
theorem lc_X7_159 : lkV RX7 159 qX7_behave 2 := ⟨by decide +kernel, by decide +kernel, by decide +kernel, by decide +kernel⟩
theorem gf_X7_13 : lkF RX7 13 7 2 := ⟨_, _, _, rfl, by decide, iX7, by decide +kernel⟩
theorem gf_X7_17 : lkF RX7 17 7 3 := ⟨_, _, _, rfl, by decide, iX7, by decide +kernel⟩
theorem gf_X7_20 : lkF RX7 20 7 4 := ⟨_, _, _, rfl, by decide, iX7, by decide +kernel⟩
theorem lc_X7_106 : lkS RX7 106 qX7_least 2 := ⟨by decide +kernel, rfl, by decide +kernel, by decide +kernel, by decide +kernel⟩
theorem gf_X7_26 : lkF RX7 26 7 6 := ⟨_, _, _, rfl, by decide, iX7, by decide +kernel⟩
theorem lc_X7_68 : lkS RX7 68 qX7_isRow 2 := ⟨by decide +kernel, rfl, by decide +kernel, by decide +kernel, by decide +kernel⟩
theorem lc_X7_72 : lkV RX7 72 qX7_last 1 := ⟨by decide +kernel, by decide +kernel, by decide +kernel, by decide +kernel⟩
theorem lc_X7_76 : lkV RX7 76 qX7_lays 3 := ⟨by decide +kernel, by decide +kernel, by decide +kernel, by decide +kernel⟩
theorem gf_X7_51 : lkF RX7 51 7 15 := ⟨_, _, _, rfl, by decide, iX7, by decide +kernel⟩
theorem gf_X7_90 : lkF RX7 90 7 8 := ⟨_, _, _, rfl, by decide, iX7, by decide +kernel⟩
theorem lc_X7_129 : lkV RX7 129 qX7_spans 1 := ⟨by decide +kernel, by decide +kernel, by decide +kernel, by decide +kernel⟩
theorem gf_X7_120 : lkF RX7 120 7 18 := ⟨_, _, _, rfl, by decide, iX7, by decide +kernel⟩
theorem gf_X7_123 : lkF RX7 123 7 19 := ⟨_, _, _, rfl, by decide, iX7, by decide +kernel⟩
theorem gf_X7_126 : lkF RX7 126 7 20 := ⟨_, _, _, rfl, by decide, iX7, by decide +kernel⟩
theorem lc_X7_100 : lkV RX7 100 qX7_isMasked 2 := ⟨by decide +kernel, by decide +kernel, by decide +kernel, by decide +kernel⟩
theorem gf_X7_29 : lkF RX7 29 7 7 := ⟨_, _, _, rfl, by decide, iX7, by decide +kernel⟩
theorem lc_X7_110 : lkV RX7 110 qX7_differs 3 := ⟨by decide +kernel, by decide +kernel, by decide +kernel, by decide +kernel⟩
theorem lc_X7_117 : lkV RX7 117 qX7_next 3 := ⟨by decide +kernel, by decide +kernel, by decide +kernel, by decide +kernel⟩
theorem lc_X7_147 : lkV RX7 147 qX7_fits 2 := ⟨by decide +kernel, by decide +kernel, by decide +kernel, by decide +kernel⟩
theorem pf_X7_120 : lkP RX7 120 7 18 (tyX7 18) := ⟨_, _, _, tyX7, rfl, by decide, iX7, by decide +kernel, rfl, tyX7_ok, nmX7, rfl⟩
theorem pf_X7_123 : lkP RX7 123 7 19 (tyX7 19) := ⟨_, _, _, tyX7, rfl, by decide, iX7, by decide +kernel, rfl, tyX7_ok, nmX7, rfl⟩
theorem pf_X7_126 : lkP RX7 126 7 20 (tyX7 20) := ⟨_, _, _, tyX7, rfl, by decide, iX7, by decide +kernel, rfl, tyX7_ok, nmX7, rfl⟩
theorem gf_X7_54 : lkF RX7 54 7 16 := ⟨_, _, _, rfl, by decide, iX7, by decide +kernel⟩
theorem gf_X7_57 : lkF RX7 57 7 17 := ⟨_, _, _, rfl, by decide, iX7, by decide +kernel⟩
theorem lc_X7_150 : lkV RX7 150 qX7_agreeAt 2 := ⟨by decide +kernel, by decide +kernel, by decide +kernel, by decide +kernel⟩
theorem lc_X7_156 : lkV RX7 156 qX7_inputsAgree 2 := ⟨by decide +kernel, by decide +kernel, by decide +kernel, by decide +kernel⟩
theorem pf_X7_7 : lkP RX7 7 7 0 (tyX7 0) := ⟨_, _, _, tyX7, rfl, by decide, iX7, by decide +kernel, rfl, tyX7_ok, nmX7, rfl⟩
theorem pf_X7_13 : lkPF RX7 13 7 2 (tyX7 2) := ⟨_, _, _, tyX7, rfl, by decide, iX7, by decide +kernel, rfl, rfl, tyX7_ok, nmX7, rfl⟩
theorem pf_X7_17 : lkPF RX7 17 7 3 (tyX7 3) := ⟨_, _, _, tyX7, rfl, by decide, iX7, by decide +kernel, rfl, rfl, tyX7_ok, nmX7, rfl⟩
theorem pf_X7_20 : lkPF RX7 20 7 4 (tyX7 4) := ⟨_, _, _, tyX7, rfl, by decide, iX7, by decide +kernel, rfl, rfl, tyX7_ok, nmX7, rfl⟩
theorem pf_X7_23 : lkPF RX7 23 7 5 (tyX7 5) := ⟨_, _, _, tyX7, rfl, by decide, iX7, by decide +kernel, rfl, rfl, tyX7_ok, nmX7, rfl⟩
theorem pf_X7_26 : lkPF RX7 26 7 6 (tyX7 6) := ⟨_, _, _, tyX7, rfl, by decide, iX7, by decide +kernel, rfl, rfl, tyX7_ok, nmX7, rfl⟩
theorem pf_X7_29 : lkPF RX7 29 7 7 (tyX7 7) := ⟨_, _, _, tyX7, rfl, by decide, iX7, by decide +kernel, rfl, rfl, tyX7_ok, nmX7, rfl⟩
theorem pf_X7_32 : lkPF RX7 32 7 9 (tyX7 9) := ⟨_, _, _, tyX7, rfl, by decide, iX7, by decide +kernel, rfl, rfl, tyX7_ok, nmX7, rfl⟩
theorem pf_X7_35 : lkPF RX7 35 7 10 (tyX7 10) := ⟨_, _, _, tyX7, rfl, by decide, iX7, by decide +kernel, rfl, rfl, tyX7_ok, nmX7, rfl⟩
theorem pf_X7_38 : lkPF RX7 38 7 11 (tyX7 11) := ⟨_, _, _, tyX7, rfl, by decide, iX7, by decide +kernel, rfl, rfl, tyX7_ok, nmX7, rfl⟩
theorem pf_X7_41 : lkPF RX7 41 7 12 (tyX7 12) := ⟨_, _, _, tyX7, rfl, by decide, iX7, by decide +kernel, rfl, rfl, tyX7_ok, nmX7, rfl⟩
theorem pf_X7_44 : lkPF RX7 44 7 13 (tyX7 13) := ⟨_, _, _, tyX7, rfl, by decide, iX7, by decide +kernel, rfl, rfl, tyX7_ok, nmX7, rfl⟩
theorem pf_X7_48 : lkPF RX7 48 7 14 (tyX7 14) := ⟨_, _, _, tyX7, rfl, by decide, iX7, by decide +kernel, rfl, rfl, tyX7_ok, nmX7, rfl⟩
theorem pf_X7_51 : lkPF RX7 51 7 15 (tyX7 15) := ⟨_, _, _, tyX7, rfl, by decide, iX7, by decide +kernel, rfl, rfl, tyX7_ok, nmX7, rfl⟩
theorem pf_X7_54 : lkPF RX7 54 7 16 (tyX7 16) := ⟨_, _, _, tyX7, rfl, by decide, iX7, by decide +kernel, rfl, rfl, tyX7_ok, nmX7, rfl⟩
theorem pf_X7_57 : lkPF RX7 57 7 17 (tyX7 17) := ⟨_, _, _, tyX7, rfl, by decide, iX7, by decide +kernel, rfl, rfl, tyX7_ok, nmX7, rfl⟩
theorem lc_X7_153 : lkV RX7 153 qX7_edge 3 := ⟨by decide +kernel, by decide +kernel, by decide +kernel, by decide +kernel⟩
theorem gf_X7_32 : lkF RX7 32 7 9 := ⟨_, _, _, rfl, by decide, iX7, by decide +kernel⟩
theorem gf_X7_41 : lkF RX7 41 7 12 := ⟨_, _, _, rfl, by decide, iX7, by decide +kernel⟩
theorem gf_X7_35 : lkF RX7 35 7 10 := ⟨_, _, _, rfl, by decide, iX7, by decide +kernel⟩
theorem gf_X7_38 : lkF RX7 38 7 11 := ⟨_, _, _, rfl, by decide, iX7, by decide +kernel⟩
theorem lc_X7_93 : lkV RX7 93 qX7_masked 4 := ⟨by decide +kernel, by decide +kernel, by decide +kernel, by decide +kernel⟩
theorem pf_X7_90 : lkP RX7 90 7 8 (tyX7 8) := ⟨_, _, _, tyX7, rfl, by decide, iX7, by decide +kernel, rfl, tyX7_ok, nmX7, rfl⟩
theorem pf_X7_87 : lkP RX7 87 7 1 (tyX7 1) := ⟨_, _, _, tyX7, rfl, by decide, iX7, by decide +kernel, rfl, tyX7_ok, nmX7, rfl⟩
theorem lc_X7_113 : lkV RX7 113 qX7_found 5 := ⟨by decide +kernel, by decide +kernel, by decide +kernel, by decide +kernel⟩
end
section
theorem dX4_init_0 : decode cX4_init 0 = .ok (.aload_n 0, 1) := by decide +kernel
theorem dX4_init_1 : decode cX4_init 1 = .ok (.invokespecial 3, 3) := by decide +kernel
theorem dX4_init_4 : decode cX4_init 4 = .ok (.aload_n 0, 1) := by decide +kernel
theorem dX4_init_5 : decode cX4_init 5 = .ok (.bipush 50, 2) := by decide +kernel
theorem dX4_init_7 : decode cX4_init 7 = .ok (.newarray .int, 2) := by decide +kernel
theorem dX4_init_9 : decode cX4_init 9 = .ok (.putfield 9, 3) := by decide +kernel
theorem dX4_init_12 : decode cX4_init 12 = .ok (.aload_n 0, 1) := by decide +kernel
theorem dX4_init_13 : decode cX4_init 13 = .ok (.bipush 50, 2) := by decide +kernel
theorem dX4_init_15 : decode cX4_init 15 = .ok (.newarray .int, 2) := by decide +kernel
theorem dX4_init_17 : decode cX4_init 17 = .ok (.putfield 15, 3) := by decide +kernel
theorem dX4_init_20 : decode cX4_init 20 = .ok (.aload_n 0, 1) := by decide +kernel
theorem dX4_init_21 : decode cX4_init 21 = .ok (.iconst 0, 1) := by decide +kernel
theorem dX4_init_22 : decode cX4_init 22 = .ok (.putfield 18, 3) := by decide +kernel
theorem dX4_init_25 : decode cX4_init 25 = .ok (.return_, 1) := by decide +kernel
theorem dX4_size_0 : decode cX4_size 0 = .ok (.aload_n 0, 1) := by decide +kernel
theorem dX4_size_1 : decode cX4_size 1 = .ok (.getfield 18, 3) := by decide +kernel
theorem dX4_size_4 : decode cX4_size 4 = .ok (.ireturn, 1) := by decide +kernel
theorem dX4_lacksRoom_0 : decode cX4_lacksRoom 0 = .ok (.aload_n 0, 1) := by decide +kernel
theorem dX4_lacksRoom_1 : decode cX4_lacksRoom 1 = .ok (.getfield 18, 3) := by decide +kernel
theorem dX4_lacksRoom_4 : decode cX4_lacksRoom 4 = .ok (.iload_n 1, 1) := by decide +kernel
theorem dX4_lacksRoom_5 : decode cX4_lacksRoom 5 = .ok (.iadd, 1) := by decide +kernel
theorem dX4_lacksRoom_6 : decode cX4_lacksRoom 6 = .ok (.bipush 50, 2) := by decide +kernel
theorem dX4_lacksRoom_8 : decode cX4_lacksRoom 8 = .ok (.if_icmp .le 7, 3) := by decide +kernel
theorem dX4_lacksRoom_11 : decode cX4_lacksRoom 11 = .ok (.iconst 1, 1) := by decide +kernel
theorem dX4_lacksRoom_12 : decode cX4_lacksRoom 12 = .ok (.goto 4, 3) := by decide +kernel
theorem dX4_lacksRoom_15 : decode cX4_lacksRoom 15 = .ok (.iconst 0, 1) := by decide +kernel
theorem dX4_lacksRoom_16 : decode cX4_lacksRoom 16 = .ok (.ireturn, 1) := by decide +kernel
theorem dX4_put_0 : decode cX4_put 0 = .ok (.aload_n 0, 1) := by decide +kernel
theorem dX4_put_1 : decode cX4_put 1 = .ok (.getfield 18, 3) := by decide +kernel
theorem dX4_put_4 : decode cX4_put 4 = .ok (.bipush 50, 2) := by decide +kernel
theorem dX4_put_6 : decode cX4_put 6 = .ok (.if_icmp .ge 33, 3) := by decide +kernel
theorem dX4_put_9 : decode cX4_put 9 = .ok (.aload_n 0, 1) := by decide +kernel
theorem dX4_put_10 : decode cX4_put 10 = .ok (.getfield 9, 3) := by decide +kernel
theorem dX4_put_13 : decode cX4_put 13 = .ok (.aload_n 0, 1) := by decide +kernel
theorem dX4_put_14 : decode cX4_put 14 = .ok (.getfield 18, 3) := by decide +kernel
theorem dX4_put_17 : decode cX4_put 17 = .ok (.iload_n 1, 1) := by decide +kernel
theorem dX4_put_18 : decode cX4_put 18 = .ok (.iastore, 1) := by decide +kernel
theorem dX4_put_19 : decode cX4_put 19 = .ok (.aload_n 0, 1) := by decide +kernel
theorem dX4_put_20 : decode cX4_put 20 = .ok (.getfield 15, 3) := by decide +kernel
theorem dX4_put_23 : decode cX4_put 23 = .ok (.aload_n 0, 1) := by decide +kernel
theorem dX4_put_24 : decode cX4_put 24 = .ok (.getfield 18, 3) := by decide +kernel
theorem dX4_put_27 : decode cX4_put 27 = .ok (.iload_n 2, 1) := by decide +kernel
theorem dX4_put_28 : decode cX4_put 28 = .ok (.iastore, 1) := by decide +kernel
theorem dX4_put_29 : decode cX4_put 29 = .ok (.aload_n 0, 1) := by decide +kernel
theorem dX4_put_30 : decode cX4_put 30 = .ok (.dup, 1) := by decide +kernel
theorem dX4_put_31 : decode cX4_put 31 = .ok (.getfield 18, 3) := by decide +kernel
theorem dX4_put_34 : decode cX4_put 34 = .ok (.iconst 1, 1) := by decide +kernel
theorem dX4_put_35 : decode cX4_put 35 = .ok (.iadd, 1) := by decide +kernel
theorem dX4_put_36 : decode cX4_put 36 = .ok (.putfield 18, 3) := by decide +kernel
theorem dX4_put_39 : decode cX4_put 39 = .ok (.return_, 1) := by decide +kernel
theorem dX4_clear_0 : decode cX4_clear 0 = .ok (.aload_n 0, 1) := by decide +kernel
theorem dX4_clear_1 : decode cX4_clear 1 = .ok (.iconst 0, 1) := by decide +kernel
theorem dX4_clear_2 : decode cX4_clear 2 = .ok (.putfield 18, 3) := by decide +kernel
theorem dX4_clear_5 : decode cX4_clear 5 = .ok (.return_, 1) := by decide +kernel
theorem dX4_dropFrom_0 : decode cX4_dropFrom 0 = .ok (.aload_n 0, 1) := by decide +kernel
theorem dX4_dropFrom_1 : decode cX4_dropFrom 1 = .ok (.getfield 18, 3) := by decide +kernel
theorem dX4_dropFrom_4 : decode cX4_dropFrom 4 = .ok (.istore_n 2, 1) := by decide +kernel
theorem dX4_dropFrom_5 : decode cX4_dropFrom 5 = .ok (.aload_n 0, 1) := by decide +kernel
theorem dX4_dropFrom_6 : decode cX4_dropFrom 6 = .ok (.aload_n 0, 1) := by decide +kernel
theorem dX4_dropFrom_7 : decode cX4_dropFrom 7 = .ok (.iload_n 1, 1) := by decide +kernel
theorem dX4_dropFrom_8 : decode cX4_dropFrom 8 = .ok (.iconst 1, 1) := by decide +kernel
theorem dX4_dropFrom_9 : decode cX4_dropFrom 9 = .ok (.isub, 1) := by decide +kernel
theorem dX4_dropFrom_10 : decode cX4_dropFrom 10 = .ok (.invokevirtual 22, 3) := by decide +kernel
theorem dX4_dropFrom_13 : decode cX4_dropFrom 13 = .ok (.iconst 1, 1) := by decide +kernel
theorem dX4_dropFrom_14 : decode cX4_dropFrom 14 = .ok (.iadd, 1) := by decide +kernel
theorem dX4_dropFrom_15 : decode cX4_dropFrom 15 = .ok (.putfield 18, 3) := by decide +kernel
theorem dX4_dropFrom_18 : decode cX4_dropFrom 18 = .ok (.iload_n 2, 1) := by decide +kernel
theorem dX4_dropFrom_19 : decode cX4_dropFrom 19 = .ok (.aload_n 0, 1) := by decide +kernel
theorem dX4_dropFrom_20 : decode cX4_dropFrom 20 = .ok (.getfield 18, 3) := by decide +kernel
theorem dX4_dropFrom_23 : decode cX4_dropFrom 23 = .ok (.isub, 1) := by decide +kernel
theorem dX4_dropFrom_24 : decode cX4_dropFrom 24 = .ok (.ireturn, 1) := by decide +kernel
theorem dX4_lastTick_0 : decode cX4_lastTick 0 = .ok (.aload_n 0, 1) := by decide +kernel
theorem dX4_lastTick_1 : decode cX4_lastTick 1 = .ok (.aload_n 0, 1) := by decide +kernel
theorem dX4_lastTick_2 : decode cX4_lastTick 2 = .ok (.getfield 18, 3) := by decide +kernel
theorem dX4_lastTick_5 : decode cX4_lastTick 5 = .ok (.iconst 1, 1) := by decide +kernel
theorem dX4_lastTick_6 : decode cX4_lastTick 6 = .ok (.isub, 1) := by decide +kernel
theorem dX4_lastTick_7 : decode cX4_lastTick 7 = .ok (.invokevirtual 26, 3) := by decide +kernel
theorem dX4_lastTick_10 : decode cX4_lastTick 10 = .ok (.ireturn, 1) := by decide +kernel
theorem dX4_tickOf_0 : decode cX4_tickOf 0 = .ok (.iload_n 1, 1) := by decide +kernel
theorem dX4_tickOf_1 : decode cX4_tickOf 1 = .ok (.ifCond .ge 5, 3) := by decide +kernel
theorem dX4_tickOf_4 : decode cX4_tickOf 4 = .ok (.iconst (-1), 1) := by decide +kernel
theorem dX4_tickOf_5 : decode cX4_tickOf 5 = .ok (.ireturn, 1) := by decide +kernel
theorem dX4_tickOf_6 : decode cX4_tickOf 6 = .ok (.iload_n 1, 1) := by decide +kernel
theorem dX4_tickOf_7 : decode cX4_tickOf 7 = .ok (.aload_n 0, 1) := by decide +kernel
theorem dX4_tickOf_8 : decode cX4_tickOf 8 = .ok (.getfield 18, 3) := by decide +kernel
theorem dX4_tickOf_11 : decode cX4_tickOf 11 = .ok (.if_icmp .ge 12, 3) := by decide +kernel
theorem dX4_tickOf_14 : decode cX4_tickOf 14 = .ok (.aload_n 0, 1) := by decide +kernel
theorem dX4_tickOf_15 : decode cX4_tickOf 15 = .ok (.getfield 9, 3) := by decide +kernel
theorem dX4_tickOf_18 : decode cX4_tickOf 18 = .ok (.iload_n 1, 1) := by decide +kernel
theorem dX4_tickOf_19 : decode cX4_tickOf 19 = .ok (.iaload, 1) := by decide +kernel
theorem dX4_tickOf_20 : decode cX4_tickOf 20 = .ok (.goto 5, 3) := by decide +kernel
theorem dX4_tickOf_23 : decode cX4_tickOf 23 = .ok (.ldc 29, 2) := by decide +kernel
theorem dX4_tickOf_25 : decode cX4_tickOf 25 = .ok (.ireturn, 1) := by decide +kernel
theorem dX4_valueOf_0 : decode cX4_valueOf 0 = .ok (.iload_n 1, 1) := by decide +kernel
theorem dX4_valueOf_1 : decode cX4_valueOf 1 = .ok (.ifCond .lt 20, 3) := by decide +kernel
theorem dX4_valueOf_4 : decode cX4_valueOf 4 = .ok (.iload_n 1, 1) := by decide +kernel
theorem dX4_valueOf_5 : decode cX4_valueOf 5 = .ok (.aload_n 0, 1) := by decide +kernel
theorem dX4_valueOf_6 : decode cX4_valueOf 6 = .ok (.getfield 18, 3) := by decide +kernel
theorem dX4_valueOf_9 : decode cX4_valueOf 9 = .ok (.if_icmp .ge 12, 3) := by decide +kernel
theorem dX4_valueOf_12 : decode cX4_valueOf 12 = .ok (.aload_n 0, 1) := by decide +kernel
theorem dX4_valueOf_13 : decode cX4_valueOf 13 = .ok (.getfield 15, 3) := by decide +kernel
theorem dX4_valueOf_16 : decode cX4_valueOf 16 = .ok (.iload_n 1, 1) := by decide +kernel
theorem dX4_valueOf_17 : decode cX4_valueOf 17 = .ok (.iaload, 1) := by decide +kernel
theorem dX4_valueOf_18 : decode cX4_valueOf 18 = .ok (.goto 6, 3) := by decide +kernel
theorem dX4_valueOf_21 : decode cX4_valueOf 21 = .ok (.sipush 256, 3) := by decide +kernel
theorem dX4_valueOf_24 : decode cX4_valueOf 24 = .ok (.ireturn, 1) := by decide +kernel
theorem dX4_valueAt_0 : decode cX4_valueAt 0 = .ok (.aload_n 0, 1) := by decide +kernel
theorem dX4_valueAt_1 : decode cX4_valueAt 1 = .ok (.aload_n 0, 1) := by decide +kernel
theorem dX4_valueAt_2 : decode cX4_valueAt 2 = .ok (.iload_n 1, 1) := by decide +kernel
theorem dX4_valueAt_3 : decode cX4_valueAt 3 = .ok (.invokevirtual 22, 3) := by decide +kernel
theorem dX4_valueAt_6 : decode cX4_valueAt 6 = .ok (.invokevirtual 30, 3) := by decide +kernel
theorem dX4_valueAt_9 : decode cX4_valueAt 9 = .ok (.ireturn, 1) := by decide +kernel
theorem dX4_latest_0 : decode cX4_latest 0 = .ok (.iconst 0, 1) := by decide +kernel
theorem dX4_latest_1 : decode cX4_latest 1 = .ok (.istore_n 2, 1) := by decide +kernel
theorem dX4_latest_2 : decode cX4_latest 2 = .ok (.aload_n 0, 1) := by decide +kernel
theorem dX4_latest_3 : decode cX4_latest 3 = .ok (.getfield 18, 3) := by decide +kernel
theorem dX4_latest_6 : decode cX4_latest 6 = .ok (.istore_n 3, 1) := by decide +kernel
theorem dX4_latest_7 : decode cX4_latest 7 = .ok (.iconst 0, 1) := by decide +kernel
theorem dX4_latest_8 : decode cX4_latest 8 = .ok (.istore 4, 2) := by decide +kernel
theorem dX4_latest_10 : decode cX4_latest 10 = .ok (.iload 4, 2) := by decide +kernel
theorem dX4_latest_12 : decode cX4_latest 12 = .ok (.bipush 50, 2) := by decide +kernel
theorem dX4_latest_14 : decode cX4_latest 14 = .ok (.if_icmp .gt 42, 3) := by decide +kernel
theorem dX4_latest_17 : decode cX4_latest 17 = .ok (.iload_n 2, 1) := by decide +kernel
theorem dX4_latest_18 : decode cX4_latest 18 = .ok (.iload_n 3, 1) := by decide +kernel
theorem dX4_latest_19 : decode cX4_latest 19 = .ok (.if_icmp .ge 37, 3) := by decide +kernel
theorem dX4_latest_22 : decode cX4_latest 22 = .ok (.iload_n 2, 1) := by decide +kernel
theorem dX4_latest_23 : decode cX4_latest 23 = .ok (.iload_n 3, 1) := by decide +kernel
theorem dX4_latest_24 : decode cX4_latest 24 = .ok (.iadd, 1) := by decide +kernel
theorem dX4_latest_25 : decode cX4_latest 25 = .ok (.iconst 2, 1) := by decide +kernel
theorem dX4_latest_26 : decode cX4_latest 26 = .ok (.idiv, 1) := by decide +kernel
theorem dX4_latest_27 : decode cX4_latest 27 = .ok (.istore 5, 2) := by decide +kernel
theorem dX4_latest_29 : decode cX4_latest 29 = .ok (.aload_n 0, 1) := by decide +kernel
theorem dX4_latest_30 : decode cX4_latest 30 = .ok (.iload 5, 2) := by decide +kernel
theorem dX4_latest_32 : decode cX4_latest 32 = .ok (.invokevirtual 26, 3) := by decide +kernel
theorem dX4_latest_35 : decode cX4_latest 35 = .ok (.iload_n 1, 1) := by decide +kernel
theorem dX4_latest_36 : decode cX4_latest 36 = .ok (.if_icmp .gt 11, 3) := by decide +kernel
theorem dX4_latest_39 : decode cX4_latest 39 = .ok (.iload 5, 2) := by decide +kernel
theorem dX4_latest_41 : decode cX4_latest 41 = .ok (.iconst 1, 1) := by decide +kernel
theorem dX4_latest_42 : decode cX4_latest 42 = .ok (.iadd, 1) := by decide +kernel
theorem dX4_latest_43 : decode cX4_latest 43 = .ok (.istore_n 2, 1) := by decide +kernel
theorem dX4_latest_44 : decode cX4_latest 44 = .ok (.goto 6, 3) := by decide +kernel
theorem dX4_latest_47 : decode cX4_latest 47 = .ok (.iload 5, 2) := by decide +kernel
theorem dX4_latest_49 : decode cX4_latest 49 = .ok (.istore_n 3, 1) := by decide +kernel
theorem dX4_latest_50 : decode cX4_latest 50 = .ok (.iinc 4 1, 3) := by decide +kernel
theorem dX4_latest_53 : decode cX4_latest 53 = .ok (.goto (-43), 3) := by decide +kernel
theorem dX4_latest_56 : decode cX4_latest 56 = .ok (.iload_n 2, 1) := by decide +kernel
theorem dX4_latest_57 : decode cX4_latest 57 = .ok (.iconst 1, 1) := by decide +kernel
theorem dX4_latest_58 : decode cX4_latest 58 = .ok (.isub, 1) := by decide +kernel
theorem dX4_latest_59 : decode cX4_latest 59 = .ok (.ireturn, 1) := by decide +kernel
theorem dX4_isEdge_0 : decode cX4_isEdge 0 = .ok (.aload_n 0, 1) := by decide +kernel
theorem dX4_isEdge_1 : decode cX4_isEdge 1 = .ok (.iload_n 1, 1) := by decide +kernel
theorem dX4_isEdge_2 : decode cX4_isEdge 2 = .ok (.invokevirtual 26, 3) := by decide +kernel
theorem dX4_isEdge_5 : decode cX4_isEdge 5 = .ok (.ifCond .le 27, 3) := by decide +kernel
theorem dX4_isEdge_8 : decode cX4_isEdge 8 = .ok (.aload_n 0, 1) := by decide +kernel
theorem dX4_isEdge_9 : decode cX4_isEdge 9 = .ok (.iload_n 1, 1) := by decide +kernel
theorem dX4_isEdge_10 : decode cX4_isEdge 10 = .ok (.invokevirtual 30, 3) := by decide +kernel
theorem dX4_isEdge_13 : decode cX4_isEdge 13 = .ok (.iconst 1, 1) := by decide +kernel
theorem dX4_isEdge_14 : decode cX4_isEdge 14 = .ok (.if_icmp .ne 18, 3) := by decide +kernel
theorem dX4_isEdge_17 : decode cX4_isEdge 17 = .ok (.aload_n 0, 1) := by decide +kernel
theorem dX4_isEdge_18 : decode cX4_isEdge 18 = .ok (.iload_n 1, 1) := by decide +kernel
theorem dX4_isEdge_19 : decode cX4_isEdge 19 = .ok (.iconst 1, 1) := by decide +kernel
theorem dX4_isEdge_20 : decode cX4_isEdge 20 = .ok (.isub, 1) := by decide +kernel
theorem dX4_isEdge_21 : decode cX4_isEdge 21 = .ok (.invokevirtual 30, 3) := by decide +kernel
theorem dX4_isEdge_24 : decode cX4_isEdge 24 = .ok (.iconst 1, 1) := by decide +kernel
theorem dX4_isEdge_25 : decode cX4_isEdge 25 = .ok (.if_icmp .eq 7, 3) := by decide +kernel
theorem dX4_isEdge_28 : decode cX4_isEdge 28 = .ok (.iconst 1, 1) := by decide +kernel
theorem dX4_isEdge_29 : decode cX4_isEdge 29 = .ok (.goto 4, 3) := by decide +kernel
theorem dX4_isEdge_32 : decode cX4_isEdge 32 = .ok (.iconst 0, 1) := by decide +kernel
theorem dX4_isEdge_33 : decode cX4_isEdge 33 = .ok (.ireturn, 1) := by decide +kernel
theorem dX4_nextEdge_0 : decode cX4_nextEdge 0 = .ok (.aload_n 0, 1) := by decide +kernel
theorem dX4_nextEdge_1 : decode cX4_nextEdge 1 = .ok (.iload_n 1, 1) := by decide +kernel
theorem dX4_nextEdge_2 : decode cX4_nextEdge 2 = .ok (.invokevirtual 22, 3) := by decide +kernel
theorem dX4_nextEdge_5 : decode cX4_nextEdge 5 = .ok (.iconst 1, 1) := by decide +kernel
theorem dX4_nextEdge_6 : decode cX4_nextEdge 6 = .ok (.iadd, 1) := by decide +kernel
theorem dX4_nextEdge_7 : decode cX4_nextEdge 7 = .ok (.istore_n 3, 1) := by decide +kernel
theorem dX4_nextEdge_8 : decode cX4_nextEdge 8 = .ok (.iload_n 3, 1) := by decide +kernel
theorem dX4_nextEdge_9 : decode cX4_nextEdge 9 = .ok (.aload_n 0, 1) := by decide +kernel
theorem dX4_nextEdge_10 : decode cX4_nextEdge 10 = .ok (.getfield 18, 3) := by decide +kernel
theorem dX4_nextEdge_13 : decode cX4_nextEdge 13 = .ok (.if_icmp .ge 32, 3) := by decide +kernel
theorem dX4_nextEdge_16 : decode cX4_nextEdge 16 = .ok (.aload_n 0, 1) := by decide +kernel
theorem dX4_nextEdge_17 : decode cX4_nextEdge 17 = .ok (.iload_n 3, 1) := by decide +kernel
theorem dX4_nextEdge_18 : decode cX4_nextEdge 18 = .ok (.invokevirtual 26, 3) := by decide +kernel
theorem dX4_nextEdge_21 : decode cX4_nextEdge 21 = .ok (.iload_n 2, 1) := by decide +kernel
theorem dX4_nextEdge_22 : decode cX4_nextEdge 22 = .ok (.if_icmp .ge 23, 3) := by decide +kernel
theorem dX4_nextEdge_25 : decode cX4_nextEdge 25 = .ok (.aload_n 0, 1) := by decide +kernel
theorem dX4_nextEdge_26 : decode cX4_nextEdge 26 = .ok (.iload_n 3, 1) := by decide +kernel
theorem dX4_nextEdge_27 : decode cX4_nextEdge 27 = .ok (.invokevirtual 33, 3) := by decide +kernel
theorem dX4_nextEdge_30 : decode cX4_nextEdge 30 = .ok (.ifCond .eq 9, 3) := by decide +kernel
theorem dX4_nextEdge_33 : decode cX4_nextEdge 33 = .ok (.aload_n 0, 1) := by decide +kernel
theorem dX4_nextEdge_34 : decode cX4_nextEdge 34 = .ok (.iload_n 3, 1) := by decide +kernel
theorem dX4_nextEdge_35 : decode cX4_nextEdge 35 = .ok (.invokevirtual 26, 3) := by decide +kernel
theorem dX4_nextEdge_38 : decode cX4_nextEdge 38 = .ok (.ireturn, 1) := by decide +kernel
theorem dX4_nextEdge_39 : decode cX4_nextEdge 39 = .ok (.iinc 3 1, 3) := by decide +kernel
theorem dX4_nextEdge_42 : decode cX4_nextEdge 42 = .ok (.goto (-34), 3) := by decide +kernel
theorem dX4_nextEdge_45 : decode cX4_nextEdge 45 = .ok (.bipush (-4), 2) := by decide +kernel
theorem dX4_nextEdge_47 : decode cX4_nextEdge 47 = .ok (.ireturn, 1) := by decide +kernel
theorem dX4_latestEdge_0 : decode cX4_latestEdge 0 = .ok (.aload_n 0, 1) := by decide +kernel
theorem dX4_latestEdge_1 : decode cX4_latestEdge 1 = .ok (.iload_n 1, 1) := by decide +kernel
theorem dX4_latestEdge_2 : decode cX4_latestEdge 2 = .ok (.invokevirtual 22, 3) := by decide +kernel
theorem dX4_latestEdge_5 : decode cX4_latestEdge 5 = .ok (.istore_n 2, 1) := by decide +kernel
theorem dX4_latestEdge_6 : decode cX4_latestEdge 6 = .ok (.iload_n 2, 1) := by decide +kernel
theorem dX4_latestEdge_7 : decode cX4_latestEdge 7 = .ok (.ifCond .lt 23, 3) := by decide +kernel
theorem dX4_latestEdge_10 : decode cX4_latestEdge 10 = .ok (.aload_n 0, 1) := by decide +kernel
theorem dX4_latestEdge_11 : decode cX4_latestEdge 11 = .ok (.iload_n 2, 1) := by decide +kernel
theorem dX4_latestEdge_12 : decode cX4_latestEdge 12 = .ok (.invokevirtual 33, 3) := by decide +kernel
theorem dX4_latestEdge_15 : decode cX4_latestEdge 15 = .ok (.ifCond .eq 9, 3) := by decide +kernel
theorem dX4_latestEdge_18 : decode cX4_latestEdge 18 = .ok (.aload_n 0, 1) := by decide +kernel
theorem dX4_latestEdge_19 : decode cX4_latestEdge 19 = .ok (.iload_n 2, 1) := by decide +kernel
theorem dX4_latestEdge_20 : decode cX4_latestEdge 20 = .ok (.invokevirtual 26, 3) := by decide +kernel
theorem dX4_latestEdge_23 : decode cX4_latestEdge 23 = .ok (.ireturn, 1) := by decide +kernel
theorem dX4_latestEdge_24 : decode cX4_latestEdge 24 = .ok (.iinc 2 (-1), 3) := by decide +kernel
theorem dX4_latestEdge_27 : decode cX4_latestEdge 27 = .ok (.goto (-21), 3) := by decide +kernel
theorem dX4_latestEdge_30 : decode cX4_latestEdge 30 = .ok (.bipush (-4), 2) := by decide +kernel
theorem dX4_latestEdge_32 : decode cX4_latestEdge 32 = .ok (.ireturn, 1) := by decide +kernel
theorem dX4_turns_0 : decode cX4_turns 0 = .ok (.iconst 0, 1) := by decide +kernel
theorem dX4_turns_1 : decode cX4_turns 1 = .ok (.istore_n 3, 1) := by decide +kernel
theorem dX4_turns_2 : decode cX4_turns 2 = .ok (.aload_n 0, 1) := by decide +kernel
theorem dX4_turns_3 : decode cX4_turns 3 = .ok (.iload_n 1, 1) := by decide +kernel
theorem dX4_turns_4 : decode cX4_turns 4 = .ok (.iconst 1, 1) := by decide +kernel
theorem dX4_turns_5 : decode cX4_turns 5 = .ok (.isub, 1) := by decide +kernel
theorem dX4_turns_6 : decode cX4_turns 6 = .ok (.invokevirtual 22, 3) := by decide +kernel
theorem dX4_turns_9 : decode cX4_turns 9 = .ok (.iconst 1, 1) := by decide +kernel
theorem dX4_turns_10 : decode cX4_turns 10 = .ok (.iadd, 1) := by decide +kernel
theorem dX4_turns_11 : decode cX4_turns 11 = .ok (.istore 4, 2) := by decide +kernel
theorem dX4_turns_13 : decode cX4_turns 13 = .ok (.iload 4, 2) := by decide +kernel
theorem dX4_turns_15 : decode cX4_turns 15 = .ok (.aload_n 0, 1) := by decide +kernel
theorem dX4_turns_16 : decode cX4_turns 16 = .ok (.getfield 18, 3) := by decide +kernel
theorem dX4_turns_19 : decode cX4_turns 19 = .ok (.if_icmp .ge 44, 3) := by decide +kernel
theorem dX4_turns_22 : decode cX4_turns 22 = .ok (.aload_n 0, 1) := by decide +kernel
theorem dX4_turns_23 : decode cX4_turns 23 = .ok (.iload 4, 2) := by decide +kernel
theorem dX4_turns_25 : decode cX4_turns 25 = .ok (.invokevirtual 26, 3) := by decide +kernel
theorem dX4_turns_28 : decode cX4_turns 28 = .ok (.iload_n 2, 1) := by decide +kernel
theorem dX4_turns_29 : decode cX4_turns 29 = .ok (.if_icmp .ge 34, 3) := by decide +kernel
theorem dX4_turns_32 : decode cX4_turns 32 = .ok (.iload_n 3, 1) := by decide +kernel
theorem dX4_turns_33 : decode cX4_turns 33 = .ok (.aload_n 0, 1) := by decide +kernel
theorem dX4_turns_34 : decode cX4_turns 34 = .ok (.iload 4, 2) := by decide +kernel
theorem dX4_turns_36 : decode cX4_turns 36 = .ok (.invokevirtual 30, 3) := by decide +kernel
theorem dX4_turns_39 : decode cX4_turns 39 = .ok (.aload_n 0, 1) := by decide +kernel
theorem dX4_turns_40 : decode cX4_turns 40 = .ok (.iload 4, 2) := by decide +kernel
theorem dX4_turns_42 : decode cX4_turns 42 = .ok (.iconst 1, 1) := by decide +kernel
theorem dX4_turns_43 : decode cX4_turns 43 = .ok (.isub, 1) := by decide +kernel
theorem dX4_turns_44 : decode cX4_turns 44 = .ok (.invokevirtual 30, 3) := by decide +kernel
theorem dX4_turns_47 : decode cX4_turns 47 = .ok (.if_icmp .eq 7, 3) := by decide +kernel
theorem dX4_turns_50 : decode cX4_turns 50 = .ok (.iconst 1, 1) := by decide +kernel
theorem dX4_turns_51 : decode cX4_turns 51 = .ok (.goto 4, 3) := by decide +kernel
theorem dX4_turns_54 : decode cX4_turns 54 = .ok (.iconst 0, 1) := by decide +kernel
theorem dX4_turns_55 : decode cX4_turns 55 = .ok (.iadd, 1) := by decide +kernel
theorem dX4_turns_56 : decode cX4_turns 56 = .ok (.istore_n 3, 1) := by decide +kernel
theorem dX4_turns_57 : decode cX4_turns 57 = .ok (.iinc 4 1, 3) := by decide +kernel
theorem dX4_turns_60 : decode cX4_turns 60 = .ok (.goto (-47), 3) := by decide +kernel
theorem dX4_turns_63 : decode cX4_turns 63 = .ok (.iload_n 3, 1) := by decide +kernel
theorem dX4_turns_64 : decode cX4_turns 64 = .ok (.ireturn, 1) := by decide +kernel
theorem dX4_ticksNotKnown_0 : decode cX4_ticksNotKnown 0 = .ok (.iconst 0, 1) := by decide +kernel
theorem dX4_ticksNotKnown_1 : decode cX4_ticksNotKnown 1 = .ok (.istore_n 3, 1) := by decide +kernel
theorem dX4_ticksNotKnown_2 : decode cX4_ticksNotKnown 2 = .ok (.aload_n 0, 1) := by decide +kernel
theorem dX4_ticksNotKnown_3 : decode cX4_ticksNotKnown 3 = .ok (.iload_n 1, 1) := by decide +kernel
theorem dX4_ticksNotKnown_4 : decode cX4_ticksNotKnown 4 = .ok (.invokevirtual 22, 3) := by decide +kernel
theorem dX4_ticksNotKnown_7 : decode cX4_ticksNotKnown 7 = .ok (.istore 4, 2) := by decide +kernel
theorem dX4_ticksNotKnown_9 : decode cX4_ticksNotKnown 9 = .ok (.iload 4, 2) := by decide +kernel
theorem dX4_ticksNotKnown_11 : decode cX4_ticksNotKnown 11 = .ok (.aload_n 0, 1) := by decide +kernel
theorem dX4_ticksNotKnown_12 : decode cX4_ticksNotKnown 12 = .ok (.getfield 18, 3) := by decide +kernel
theorem dX4_ticksNotKnown_15 : decode cX4_ticksNotKnown 15 = .ok (.if_icmp .ge 46, 3) := by decide +kernel
theorem dX4_ticksNotKnown_18 : decode cX4_ticksNotKnown 18 = .ok (.aload_n 0, 1) := by decide +kernel
theorem dX4_ticksNotKnown_19 : decode cX4_ticksNotKnown 19 = .ok (.iload 4, 2) := by decide +kernel
theorem dX4_ticksNotKnown_21 : decode cX4_ticksNotKnown 21 = .ok (.invokevirtual 26, 3) := by decide +kernel
theorem dX4_ticksNotKnown_24 : decode cX4_ticksNotKnown 24 = .ok (.iload_n 2, 1) := by decide +kernel
theorem dX4_ticksNotKnown_25 : decode cX4_ticksNotKnown 25 = .ok (.if_icmp .ge 36, 3) := by decide +kernel
theorem dX4_ticksNotKnown_28 : decode cX4_ticksNotKnown 28 = .ok (.iload_n 3, 1) := by decide +kernel
theorem dX4_ticksNotKnown_29 : decode cX4_ticksNotKnown 29 = .ok (.aload_n 0, 1) := by decide +kernel
theorem dX4_ticksNotKnown_30 : decode cX4_ticksNotKnown 30 = .ok (.iload 4, 2) := by decide +kernel
theorem dX4_ticksNotKnown_32 : decode cX4_ticksNotKnown 32 = .ok (.invokevirtual 30, 3) := by decide +kernel
theorem dX4_ticksNotKnown_35 : decode cX4_ticksNotKnown 35 = .ok (.sipush 256, 3) := by decide +kernel
theorem dX4_ticksNotKnown_38 : decode cX4_ticksNotKnown 38 = .ok (.if_icmp .ne 14, 3) := by decide +kernel
theorem dX4_ticksNotKnown_41 : decode cX4_ticksNotKnown 41 = .ok (.aload_n 0, 1) := by decide +kernel
theorem dX4_ticksNotKnown_42 : decode cX4_ticksNotKnown 42 = .ok (.iload 4, 2) := by decide +kernel
theorem dX4_ticksNotKnown_44 : decode cX4_ticksNotKnown 44 = .ok (.iload_n 1, 1) := by decide +kernel
theorem dX4_ticksNotKnown_45 : decode cX4_ticksNotKnown 45 = .ok (.iload_n 2, 1) := by decide +kernel
theorem dX4_ticksNotKnown_46 : decode cX4_ticksNotKnown 46 = .ok (.invokevirtual 37, 3) := by decide +kernel
theorem dX4_ticksNotKnown_49 : decode cX4_ticksNotKnown 49 = .ok (.goto 4, 3) := by decide +kernel
theorem dX4_ticksNotKnown_52 : decode cX4_ticksNotKnown 52 = .ok (.iconst 0, 1) := by decide +kernel
theorem dX4_ticksNotKnown_53 : decode cX4_ticksNotKnown 53 = .ok (.iadd, 1) := by decide +kernel
theorem dX4_ticksNotKnown_54 : decode cX4_ticksNotKnown 54 = .ok (.istore_n 3, 1) := by decide +kernel
theorem dX4_ticksNotKnown_55 : decode cX4_ticksNotKnown 55 = .ok (.iinc 4 1, 3) := by decide +kernel
theorem dX4_ticksNotKnown_58 : decode cX4_ticksNotKnown 58 = .ok (.goto (-49), 3) := by decide +kernel
theorem dX4_ticksNotKnown_61 : decode cX4_ticksNotKnown 61 = .ok (.iload_n 3, 1) := by decide +kernel
theorem dX4_ticksNotKnown_62 : decode cX4_ticksNotKnown 62 = .ok (.ireturn, 1) := by decide +kernel
theorem dX4_sumKnown_0 : decode cX4_sumKnown 0 = .ok (.iconst 0, 1) := by decide +kernel
theorem dX4_sumKnown_1 : decode cX4_sumKnown 1 = .ok (.istore_n 3, 1) := by decide +kernel
theorem dX4_sumKnown_2 : decode cX4_sumKnown 2 = .ok (.aload_n 0, 1) := by decide +kernel
theorem dX4_sumKnown_3 : decode cX4_sumKnown 3 = .ok (.iload_n 1, 1) := by decide +kernel
theorem dX4_sumKnown_4 : decode cX4_sumKnown 4 = .ok (.invokevirtual 22, 3) := by decide +kernel
theorem dX4_sumKnown_7 : decode cX4_sumKnown 7 = .ok (.istore 4, 2) := by decide +kernel
theorem dX4_sumKnown_9 : decode cX4_sumKnown 9 = .ok (.iload 4, 2) := by decide +kernel
theorem dX4_sumKnown_11 : decode cX4_sumKnown 11 = .ok (.aload_n 0, 1) := by decide +kernel
theorem dX4_sumKnown_12 : decode cX4_sumKnown 12 = .ok (.getfield 18, 3) := by decide +kernel
theorem dX4_sumKnown_15 : decode cX4_sumKnown 15 = .ok (.if_icmp .ge 53, 3) := by decide +kernel
theorem dX4_sumKnown_18 : decode cX4_sumKnown 18 = .ok (.aload_n 0, 1) := by decide +kernel
theorem dX4_sumKnown_19 : decode cX4_sumKnown 19 = .ok (.iload 4, 2) := by decide +kernel
theorem dX4_sumKnown_21 : decode cX4_sumKnown 21 = .ok (.invokevirtual 26, 3) := by decide +kernel
theorem dX4_sumKnown_24 : decode cX4_sumKnown 24 = .ok (.iload_n 2, 1) := by decide +kernel
theorem dX4_sumKnown_25 : decode cX4_sumKnown 25 = .ok (.if_icmp .ge 43, 3) := by decide +kernel
theorem dX4_sumKnown_28 : decode cX4_sumKnown 28 = .ok (.iload_n 3, 1) := by decide +kernel
theorem dX4_sumKnown_29 : decode cX4_sumKnown 29 = .ok (.aload_n 0, 1) := by decide +kernel
theorem dX4_sumKnown_30 : decode cX4_sumKnown 30 = .ok (.iload 4, 2) := by decide +kernel
theorem dX4_sumKnown_32 : decode cX4_sumKnown 32 = .ok (.invokevirtual 30, 3) := by decide +kernel
theorem dX4_sumKnown_35 : decode cX4_sumKnown 35 = .ok (.sipush 256, 3) := by decide +kernel
theorem dX4_sumKnown_38 : decode cX4_sumKnown 38 = .ok (.if_icmp .eq 21, 3) := by decide +kernel
theorem dX4_sumKnown_41 : decode cX4_sumKnown 41 = .ok (.aload_n 0, 1) := by decide +kernel
theorem dX4_sumKnown_42 : decode cX4_sumKnown 42 = .ok (.iload 4, 2) := by decide +kernel
theorem dX4_sumKnown_44 : decode cX4_sumKnown 44 = .ok (.invokevirtual 30, 3) := by decide +kernel
theorem dX4_sumKnown_47 : decode cX4_sumKnown 47 = .ok (.aload_n 0, 1) := by decide +kernel
theorem dX4_sumKnown_48 : decode cX4_sumKnown 48 = .ok (.iload 4, 2) := by decide +kernel
theorem dX4_sumKnown_50 : decode cX4_sumKnown 50 = .ok (.iload_n 1, 1) := by decide +kernel
theorem dX4_sumKnown_51 : decode cX4_sumKnown 51 = .ok (.iload_n 2, 1) := by decide +kernel
theorem dX4_sumKnown_52 : decode cX4_sumKnown 52 = .ok (.invokevirtual 37, 3) := by decide +kernel
theorem dX4_sumKnown_55 : decode cX4_sumKnown 55 = .ok (.imul, 1) := by decide +kernel
theorem dX4_sumKnown_56 : decode cX4_sumKnown 56 = .ok (.goto 4, 3) := by decide +kernel
theorem dX4_sumKnown_59 : decode cX4_sumKnown 59 = .ok (.iconst 0, 1) := by decide +kernel
theorem dX4_sumKnown_60 : decode cX4_sumKnown 60 = .ok (.iadd, 1) := by decide +kernel
theorem dX4_sumKnown_61 : decode cX4_sumKnown 61 = .ok (.istore_n 3, 1) := by decide +kernel
theorem dX4_sumKnown_62 : decode cX4_sumKnown 62 = .ok (.iinc 4 1, 3) := by decide +kernel
theorem dX4_sumKnown_65 : decode cX4_sumKnown 65 = .ok (.goto (-56), 3) := by decide +kernel
theorem dX4_sumKnown_68 : decode cX4_sumKnown 68 = .ok (.iload_n 3, 1) := by decide +kernel
theorem dX4_sumKnown_69 : decode cX4_sumKnown 69 = .ok (.ireturn, 1) := by decide +kernel
theorem dX4_ticksWithin_0 : decode cX4_ticksWithin 0 = .ok (.iload_n 3, 1) := by decide +kernel
theorem dX4_ticksWithin_1 : decode cX4_ticksWithin 1 = .ok (.aload_n 0, 1) := by decide +kernel
theorem dX4_ticksWithin_2 : decode cX4_ticksWithin 2 = .ok (.iload_n 1, 1) := by decide +kernel
theorem dX4_ticksWithin_3 : decode cX4_ticksWithin 3 = .ok (.iconst 1, 1) := by decide +kernel
theorem dX4_ticksWithin_4 : decode cX4_ticksWithin 4 = .ok (.iadd, 1) := by decide +kernel
theorem dX4_ticksWithin_5 : decode cX4_ticksWithin 5 = .ok (.invokevirtual 26, 3) := by decide +kernel
theorem dX4_ticksWithin_8 : decode cX4_ticksWithin 8 = .ok (.invokestatic 41, 3) := by decide +kernel
theorem dX4_ticksWithin_11 : decode cX4_ticksWithin 11 = .ok (.iload_n 2, 1) := by decide +kernel
theorem dX4_ticksWithin_12 : decode cX4_ticksWithin 12 = .ok (.aload_n 0, 1) := by decide +kernel
theorem dX4_ticksWithin_13 : decode cX4_ticksWithin 13 = .ok (.iload_n 1, 1) := by decide +kernel
theorem dX4_ticksWithin_14 : decode cX4_ticksWithin 14 = .ok (.invokevirtual 26, 3) := by decide +kernel
theorem dX4_ticksWithin_17 : decode cX4_ticksWithin 17 = .ok (.invokestatic 47, 3) := by decide +kernel
theorem dX4_ticksWithin_20 : decode cX4_ticksWithin 20 = .ok (.isub, 1) := by decide +kernel
theorem dX4_ticksWithin_21 : decode cX4_ticksWithin 21 = .ok (.ireturn, 1) := by decide +kernel
end
section
theorem dX0_init_0 : decode cX0_init 0 = .ok (.aload_n 0, 1) := by decide +kernel
theorem dX0_init_1 : decode cX0_init 1 = .ok (.invokespecial 1, 3) := by decide +kernel
theorem dX0_init_4 : decode cX0_init 4 = .ok (.aload_n 0, 1) := by decide +kernel
theorem dX0_init_5 : decode cX0_init 5 = .ok (.iconst 0, 1) := by decide +kernel
theorem dX0_init_6 : decode cX0_init 6 = .ok (.putfield 7, 3) := by decide +kernel
theorem dX0_init_9 : decode cX0_init 9 = .ok (.aload_n 0, 1) := by decide +kernel
theorem dX0_init_10 : decode cX0_init 10 = .ok (.iconst 0, 1) := by decide +kernel
theorem dX0_init_11 : decode cX0_init 11 = .ok (.putfield 13, 3) := by decide +kernel
theorem dX0_init_14 : decode cX0_init 14 = .ok (.aload_n 0, 1) := by decide +kernel
theorem dX0_init_15 : decode cX0_init 15 = .ok (.iconst 0, 1) := by decide +kernel
theorem dX0_init_16 : decode cX0_init 16 = .ok (.putfield 17, 3) := by decide +kernel
theorem dX0_init_19 : decode cX0_init 19 = .ok (.aload_n 0, 1) := by decide +kernel
theorem dX0_init_20 : decode cX0_init 20 = .ok (.iconst 0, 1) := by decide +kernel
theorem dX0_init_21 : decode cX0_init 21 = .ok (.putfield 20, 3) := by decide +kernel
theorem dX0_init_24 : decode cX0_init 24 = .ok (.aload_n 0, 1) := by decide +kernel
theorem dX0_init_25 : decode cX0_init 25 = .ok (.iconst 0, 1) := by decide +kernel
theorem dX0_init_26 : decode cX0_init 26 = .ok (.putfield 23, 3) := by decide +kernel
theorem dX0_init_29 : decode cX0_init 29 = .ok (.return_, 1) := by decide +kernel
theorem dX0_tell_0 : decode cX0_tell 0 = .ok (.aload_n 0, 1) := by decide +kernel
theorem dX0_tell_1 : decode cX0_tell 1 = .ok (.iconst 1, 1) := by decide +kernel
theorem dX0_tell_2 : decode cX0_tell 2 = .ok (.putfield 7, 3) := by decide +kernel
theorem dX0_tell_5 : decode cX0_tell 5 = .ok (.aload_n 0, 1) := by decide +kernel
theorem dX0_tell_6 : decode cX0_tell 6 = .ok (.iload_n 1, 1) := by decide +kernel
theorem dX0_tell_7 : decode cX0_tell 7 = .ok (.putfield 13, 3) := by decide +kernel
theorem dX0_tell_10 : decode cX0_tell 10 = .ok (.aload_n 0, 1) := by decide +kernel
theorem dX0_tell_11 : decode cX0_tell 11 = .ok (.iload_n 2, 1) := by decide +kernel
theorem dX0_tell_12 : decode cX0_tell 12 = .ok (.putfield 17, 3) := by decide +kernel
theorem dX0_tell_15 : decode cX0_tell 15 = .ok (.aload_n 0, 1) := by decide +kernel
theorem dX0_tell_16 : decode cX0_tell 16 = .ok (.iload_n 3, 1) := by decide +kernel
theorem dX0_tell_17 : decode cX0_tell 17 = .ok (.putfield 20, 3) := by decide +kernel
theorem dX0_tell_20 : decode cX0_tell 20 = .ok (.aload_n 0, 1) := by decide +kernel
theorem dX0_tell_21 : decode cX0_tell 21 = .ok (.iload 4, 2) := by decide +kernel
theorem dX0_tell_23 : decode cX0_tell 23 = .ok (.putfield 23, 3) := by decide +kernel
theorem dX0_tell_26 : decode cX0_tell 26 = .ok (.return_, 1) := by decide +kernel
theorem dX1_init_0 : decode cX1_init 0 = .ok (.aload_n 0, 1) := by decide +kernel
theorem dX1_init_1 : decode cX1_init 1 = .ok (.invokespecial 3, 3) := by decide +kernel
theorem dX1_init_4 : decode cX1_init 4 = .ok (.aload_n 0, 1) := by decide +kernel
theorem dX1_init_5 : decode cX1_init 5 = .ok (.iconst 0, 1) := by decide +kernel
theorem dX1_init_6 : decode cX1_init 6 = .ok (.putfield 9, 3) := by decide +kernel
theorem dX1_init_9 : decode cX1_init 9 = .ok (.aload_n 0, 1) := by decide +kernel
theorem dX1_init_10 : decode cX1_init 10 = .ok (.iconst 0, 1) := by decide +kernel
theorem dX1_init_11 : decode cX1_init 11 = .ok (.putfield 15, 3) := by decide +kernel
theorem dX1_init_14 : decode cX1_init 14 = .ok (.aload_n 0, 1) := by decide +kernel
theorem dX1_init_15 : decode cX1_init 15 = .ok (.iconst 0, 1) := by decide +kernel
theorem dX1_init_16 : decode cX1_init 16 = .ok (.putfield 18, 3) := by decide +kernel
theorem dX1_init_19 : decode cX1_init 19 = .ok (.return_, 1) := by decide +kernel
theorem dX1_tell_0 : decode cX1_tell 0 = .ok (.aload_n 0, 1) := by decide +kernel
theorem dX1_tell_1 : decode cX1_tell 1 = .ok (.iload_n 1, 1) := by decide +kernel
theorem dX1_tell_2 : decode cX1_tell 2 = .ok (.putfield 9, 3) := by decide +kernel
theorem dX1_tell_5 : decode cX1_tell 5 = .ok (.aload_n 0, 1) := by decide +kernel
theorem dX1_tell_6 : decode cX1_tell 6 = .ok (.iload_n 2, 1) := by decide +kernel
theorem dX1_tell_7 : decode cX1_tell 7 = .ok (.putfield 15, 3) := by decide +kernel
theorem dX1_tell_10 : decode cX1_tell 10 = .ok (.aload_n 0, 1) := by decide +kernel
theorem dX1_tell_11 : decode cX1_tell 11 = .ok (.iload_n 3, 1) := by decide +kernel
theorem dX1_tell_12 : decode cX1_tell 12 = .ok (.putfield 18, 3) := by decide +kernel
theorem dX1_tell_15 : decode cX1_tell 15 = .ok (.return_, 1) := by decide +kernel
theorem dX2_init_0 : decode cX2_init 0 = .ok (.aload_n 0, 1) := by decide +kernel
theorem dX2_init_1 : decode cX2_init 1 = .ok (.invokespecial 1, 3) := by decide +kernel
theorem dX2_init_4 : decode cX2_init 4 = .ok (.aload_n 0, 1) := by decide +kernel
theorem dX2_init_5 : decode cX2_init 5 = .ok (.new 7, 3) := by decide +kernel
theorem dX2_init_8 : decode cX2_init 8 = .ok (.dup, 1) := by decide +kernel
theorem dX2_init_9 : decode cX2_init 9 = .ok (.invokespecial 9, 3) := by decide +kernel
theorem dX2_init_12 : decode cX2_init 12 = .ok (.putfield 10, 3) := by decide +kernel
theorem dX2_init_15 : decode cX2_init 15 = .ok (.aload_n 0, 1) := by decide +kernel
theorem dX2_init_16 : decode cX2_init 16 = .ok (.iconst 0, 1) := by decide +kernel
theorem dX2_init_17 : decode cX2_init 17 = .ok (.putfield 16, 3) := by decide +kernel
theorem dX2_init_20 : decode cX2_init 20 = .ok (.aload_n 0, 1) := by decide +kernel
theorem dX2_init_21 : decode cX2_init 21 = .ok (.aload_n 0, 1) := by decide +kernel
theorem dX2_init_22 : decode cX2_init 22 = .ok (.getfield 10, 3) := by decide +kernel
theorem dX2_init_25 : decode cX2_init 25 = .ok (.putfield 20, 3) := by decide +kernel
theorem dX2_init_28 : decode cX2_init 28 = .ok (.aload_n 0, 1) := by decide +kernel
theorem dX2_init_29 : decode cX2_init 29 = .ok (.iconst 1, 1) := by decide +kernel
theorem dX2_init_30 : decode cX2_init 30 = .ok (.putfield 23, 3) := by decide +kernel
theorem dX2_init_33 : decode cX2_init 33 = .ok (.return_, 1) := by decide +kernel
theorem dX2_coverTicks_0 : decode cX2_coverTicks 0 = .ok (.aload_n 0, 1) := by decide +kernel
theorem dX2_coverTicks_1 : decode cX2_coverTicks 1 = .ok (.getfield 10, 3) := by decide +kernel
theorem dX2_coverTicks_4 : decode cX2_coverTicks 4 = .ok (.invokevirtual 26, 3) := by decide +kernel
theorem dX2_coverTicks_7 : decode cX2_coverTicks 7 = .ok (.aload_n 0, 1) := by decide +kernel
theorem dX2_coverTicks_8 : decode cX2_coverTicks 8 = .ok (.getfield 10, 3) := by decide +kernel
theorem dX2_coverTicks_11 : decode cX2_coverTicks 11 = .ok (.iload_n 2, 1) := by decide +kernel
theorem dX2_coverTicks_12 : decode cX2_coverTicks 12 = .ok (.iconst 1, 1) := by decide +kernel
theorem dX2_coverTicks_13 : decode cX2_coverTicks 13 = .ok (.invokevirtual 29, 3) := by decide +kernel
theorem dX2_coverTicks_16 : decode cX2_coverTicks 16 = .ok (.aload_n 0, 1) := by decide +kernel
theorem dX2_coverTicks_17 : decode cX2_coverTicks 17 = .ok (.getfield 10, 3) := by decide +kernel
theorem dX2_coverTicks_20 : decode cX2_coverTicks 20 = .ok (.iload_n 3, 1) := by decide +kernel
theorem dX2_coverTicks_21 : decode cX2_coverTicks 21 = .ok (.iconst 0, 1) := by decide +kernel
theorem dX2_coverTicks_22 : decode cX2_coverTicks 22 = .ok (.invokevirtual 29, 3) := by decide +kernel
theorem dX2_coverTicks_25 : decode cX2_coverTicks 25 = .ok (.aload_n 0, 1) := by decide +kernel
theorem dX2_coverTicks_26 : decode cX2_coverTicks 26 = .ok (.iload_n 1, 1) := by decide +kernel
theorem dX2_coverTicks_27 : decode cX2_coverTicks 27 = .ok (.aload_n 0, 1) := by decide +kernel
theorem dX2_coverTicks_28 : decode cX2_coverTicks 28 = .ok (.getfield 10, 3) := by decide +kernel
theorem dX2_coverTicks_31 : decode cX2_coverTicks 31 = .ok (.iconst 1, 1) := by decide +kernel
theorem dX2_coverTicks_32 : decode cX2_coverTicks 32 = .ok (.invokevirtual 33, 3) := by decide +kernel
theorem dX2_coverTicks_35 : decode cX2_coverTicks 35 = .ok (.return_, 1) := by decide +kernel
theorem dX2_coverWhile_0 : decode cX2_coverWhile 0 = .ok (.aload_n 0, 1) := by decide +kernel
theorem dX2_coverWhile_1 : decode cX2_coverWhile 1 = .ok (.iload_n 1, 1) := by decide +kernel
theorem dX2_coverWhile_2 : decode cX2_coverWhile 2 = .ok (.putfield 16, 3) := by decide +kernel
theorem dX2_coverWhile_5 : decode cX2_coverWhile 5 = .ok (.aload_n 0, 1) := by decide +kernel
theorem dX2_coverWhile_6 : decode cX2_coverWhile 6 = .ok (.aload_n 2, 1) := by decide +kernel
theorem dX2_coverWhile_7 : decode cX2_coverWhile 7 = .ok (.putfield 20, 3) := by decide +kernel
theorem dX2_coverWhile_10 : decode cX2_coverWhile 10 = .ok (.aload_n 0, 1) := by decide +kernel
theorem dX2_coverWhile_11 : decode cX2_coverWhile 11 = .ok (.iload_n 3, 1) := by decide +kernel
theorem dX2_coverWhile_12 : decode cX2_coverWhile 12 = .ok (.putfield 23, 3) := by decide +kernel
theorem dX2_coverWhile_15 : decode cX2_coverWhile 15 = .ok (.return_, 1) := by decide +kernel
theorem dX3_init_0 : decode cX3_init 0 = .ok (.aload_n 0, 1) := by decide +kernel
theorem dX3_init_1 : decode cX3_init 1 = .ok (.invokespecial 3, 3) := by decide +kernel
theorem dX3_init_4 : decode cX3_init 4 = .ok (.aload_n 0, 1) := by decide +kernel
theorem dX3_init_5 : decode cX3_init 5 = .ok (.new 9, 3) := by decide +kernel
theorem dX3_init_8 : decode cX3_init 8 = .ok (.dup, 1) := by decide +kernel
theorem dX3_init_9 : decode cX3_init 9 = .ok (.invokespecial 11, 3) := by decide +kernel
theorem dX3_init_12 : decode cX3_init 12 = .ok (.putfield 12, 3) := by decide +kernel
theorem dX3_init_15 : decode cX3_init 15 = .ok (.aload_n 0, 1) := by decide +kernel
theorem dX3_init_16 : decode cX3_init 16 = .ok (.aload_n 0, 1) := by decide +kernel
theorem dX3_init_17 : decode cX3_init 17 = .ok (.getfield 12, 3) := by decide +kernel
theorem dX3_init_20 : decode cX3_init 20 = .ok (.putfield 18, 3) := by decide +kernel
theorem dX3_init_23 : decode cX3_init 23 = .ok (.aload_n 0, 1) := by decide +kernel
theorem dX3_init_24 : decode cX3_init 24 = .ok (.aload_n 0, 1) := by decide +kernel
theorem dX3_init_25 : decode cX3_init 25 = .ok (.getfield 12, 3) := by decide +kernel
theorem dX3_init_28 : decode cX3_init 28 = .ok (.putfield 21, 3) := by decide +kernel
theorem dX3_init_31 : decode cX3_init 31 = .ok (.aload_n 0, 1) := by decide +kernel
theorem dX3_init_32 : decode cX3_init 32 = .ok (.iconst 0, 1) := by decide +kernel
theorem dX3_init_33 : decode cX3_init 33 = .ok (.putfield 24, 3) := by decide +kernel
theorem dX3_init_36 : decode cX3_init 36 = .ok (.aload_n 0, 1) := by decide +kernel
theorem dX3_init_37 : decode cX3_init 37 = .ok (.iconst 0, 1) := by decide +kernel
theorem dX3_init_38 : decode cX3_init 38 = .ok (.putfield 28, 3) := by decide +kernel
theorem dX3_init_41 : decode cX3_init 41 = .ok (.aload_n 0, 1) := by decide +kernel
theorem dX3_init_42 : decode cX3_init 42 = .ok (.iconst 1, 1) := by decide +kernel
theorem dX3_init_43 : decode cX3_init 43 = .ok (.putfield 32, 3) := by decide +kernel
theorem dX3_init_46 : decode cX3_init 46 = .ok (.return_, 1) := by decide +kernel
theorem dX3_wantUnlike_0 : decode cX3_wantUnlike 0 = .ok (.aload_n 0, 1) := by decide +kernel
theorem dX3_wantUnlike_1 : decode cX3_wantUnlike 1 = .ok (.aload_n 1, 1) := by decide +kernel
theorem dX3_wantUnlike_2 : decode cX3_wantUnlike 2 = .ok (.putfield 18, 3) := by decide +kernel
theorem dX3_wantUnlike_5 : decode cX3_wantUnlike 5 = .ok (.aload_n 0, 1) := by decide +kernel
theorem dX3_wantUnlike_6 : decode cX3_wantUnlike 6 = .ok (.aload_n 2, 1) := by decide +kernel
theorem dX3_wantUnlike_7 : decode cX3_wantUnlike 7 = .ok (.putfield 21, 3) := by decide +kernel
theorem dX3_wantUnlike_10 : decode cX3_wantUnlike 10 = .ok (.aload_n 0, 1) := by decide +kernel
theorem dX3_wantUnlike_11 : decode cX3_wantUnlike 11 = .ok (.iload_n 3, 1) := by decide +kernel
theorem dX3_wantUnlike_12 : decode cX3_wantUnlike 12 = .ok (.putfield 24, 3) := by decide +kernel
theorem dX3_wantUnlike_15 : decode cX3_wantUnlike 15 = .ok (.aload_n 0, 1) := by decide +kernel
theorem dX3_wantUnlike_16 : decode cX3_wantUnlike 16 = .ok (.iload 4, 2) := by decide +kernel
theorem dX3_wantUnlike_18 : decode cX3_wantUnlike 18 = .ok (.putfield 28, 3) := by decide +kernel
theorem dX3_wantUnlike_21 : decode cX3_wantUnlike 21 = .ok (.aload_n 0, 1) := by decide +kernel
theorem dX3_wantUnlike_22 : decode cX3_wantUnlike 22 = .ok (.iconst 0, 1) := by decide +kernel
theorem dX3_wantUnlike_23 : decode cX3_wantUnlike 23 = .ok (.putfield 32, 3) := by decide +kernel
theorem dX3_wantUnlike_26 : decode cX3_wantUnlike 26 = .ok (.return_, 1) := by decide +kernel
theorem dX3_wantValue_0 : decode cX3_wantValue 0 = .ok (.aload_n 0, 1) := by decide +kernel
theorem dX3_wantValue_1 : decode cX3_wantValue 1 = .ok (.getfield 12, 3) := by decide +kernel
theorem dX3_wantValue_4 : decode cX3_wantValue 4 = .ok (.invokevirtual 35, 3) := by decide +kernel
theorem dX3_wantValue_7 : decode cX3_wantValue 7 = .ok (.aload_n 0, 1) := by decide +kernel
theorem dX3_wantValue_8 : decode cX3_wantValue 8 = .ok (.getfield 12, 3) := by decide +kernel
theorem dX3_wantValue_11 : decode cX3_wantValue 11 = .ok (.iconst 0, 1) := by decide +kernel
theorem dX3_wantValue_12 : decode cX3_wantValue 12 = .ok (.iload_n 2, 1) := by decide +kernel
theorem dX3_wantValue_13 : decode cX3_wantValue 13 = .ok (.invokevirtual 38, 3) := by decide +kernel
theorem dX3_wantValue_16 : decode cX3_wantValue 16 = .ok (.aload_n 0, 1) := by decide +kernel
theorem dX3_wantValue_17 : decode cX3_wantValue 17 = .ok (.aload_n 1, 1) := by decide +kernel
theorem dX3_wantValue_18 : decode cX3_wantValue 18 = .ok (.putfield 18, 3) := by decide +kernel
theorem dX3_wantValue_21 : decode cX3_wantValue 21 = .ok (.aload_n 0, 1) := by decide +kernel
theorem dX3_wantValue_22 : decode cX3_wantValue 22 = .ok (.aload_n 0, 1) := by decide +kernel
theorem dX3_wantValue_23 : decode cX3_wantValue 23 = .ok (.getfield 12, 3) := by decide +kernel
theorem dX3_wantValue_26 : decode cX3_wantValue 26 = .ok (.putfield 21, 3) := by decide +kernel
theorem dX3_wantValue_29 : decode cX3_wantValue 29 = .ok (.aload_n 0, 1) := by decide +kernel
theorem dX3_wantValue_30 : decode cX3_wantValue 30 = .ok (.iconst 0, 1) := by decide +kernel
theorem dX3_wantValue_31 : decode cX3_wantValue 31 = .ok (.putfield 24, 3) := by decide +kernel
theorem dX3_wantValue_34 : decode cX3_wantValue 34 = .ok (.aload_n 0, 1) := by decide +kernel
theorem dX3_wantValue_35 : decode cX3_wantValue 35 = .ok (.iconst 0, 1) := by decide +kernel
theorem dX3_wantValue_36 : decode cX3_wantValue 36 = .ok (.putfield 28, 3) := by decide +kernel
theorem dX3_wantValue_39 : decode cX3_wantValue 39 = .ok (.aload_n 0, 1) := by decide +kernel
theorem dX3_wantValue_40 : decode cX3_wantValue 40 = .ok (.iconst 1, 1) := by decide +kernel
theorem dX3_wantValue_41 : decode cX3_wantValue 41 = .ok (.putfield 32, 3) := by decide +kernel
theorem dX3_wantValue_44 : decode cX3_wantValue 44 = .ok (.return_, 1) := by decide +kernel
theorem dX3_wantValueNot_0 : decode cX3_wantValueNot 0 = .ok (.aload_n 0, 1) := by decide +kernel
theorem dX3_wantValueNot_1 : decode cX3_wantValueNot 1 = .ok (.aload_n 1, 1) := by decide +kernel
theorem dX3_wantValueNot_2 : decode cX3_wantValueNot 2 = .ok (.iload_n 2, 1) := by decide +kernel
theorem dX3_wantValueNot_3 : decode cX3_wantValueNot 3 = .ok (.invokevirtual 42, 3) := by decide +kernel
theorem dX3_wantValueNot_6 : decode cX3_wantValueNot 6 = .ok (.aload_n 0, 1) := by decide +kernel
theorem dX3_wantValueNot_7 : decode cX3_wantValueNot 7 = .ok (.iconst 0, 1) := by decide +kernel
theorem dX3_wantValueNot_8 : decode cX3_wantValueNot 8 = .ok (.putfield 32, 3) := by decide +kernel
theorem dX3_wantValueNot_11 : decode cX3_wantValueNot 11 = .ok (.return_, 1) := by decide +kernel
theorem dX3_nextTick_0 : decode cX3_nextTick 0 = .ok (.aload_n 0, 1) := by decide +kernel
theorem dX3_nextTick_1 : decode cX3_nextTick 1 = .ok (.getfield 32, 3) := by decide +kernel
theorem dX3_nextTick_4 : decode cX3_nextTick 4 = .ok (.iload_n 3, 1) := by decide +kernel
theorem dX3_nextTick_5 : decode cX3_nextTick 5 = .ok (.if_icmp .ne 7, 3) := by decide +kernel
theorem dX3_nextTick_8 : decode cX3_nextTick 8 = .ok (.iconst 1, 1) := by decide +kernel
theorem dX3_nextTick_9 : decode cX3_nextTick 9 = .ok (.goto 4, 3) := by decide +kernel
theorem dX3_nextTick_12 : decode cX3_nextTick 12 = .ok (.iconst 0, 1) := by decide +kernel
theorem dX3_nextTick_13 : decode cX3_nextTick 13 = .ok (.istore 4, 2) := by decide +kernel
theorem dX3_nextTick_15 : decode cX3_nextTick 15 = .ok (.aload_n 0, 1) := by decide +kernel
theorem dX3_nextTick_16 : decode cX3_nextTick 16 = .ok (.getfield 18, 3) := by decide +kernel
theorem dX3_nextTick_19 : decode cX3_nextTick 19 = .ok (.iload_n 1, 1) := by decide +kernel
theorem dX3_nextTick_20 : decode cX3_nextTick 20 = .ok (.invokevirtual 46, 3) := by decide +kernel
theorem dX3_nextTick_23 : decode cX3_nextTick 23 = .ok (.istore 5, 2) := by decide +kernel
theorem dX3_nextTick_25 : decode cX3_nextTick 25 = .ok (.aload_n 0, 1) := by decide +kernel
theorem dX3_nextTick_26 : decode cX3_nextTick 26 = .ok (.getfield 21, 3) := by decide +kernel
theorem dX3_nextTick_29 : decode cX3_nextTick 29 = .ok (.iload_n 1, 1) := by decide +kernel
theorem dX3_nextTick_30 : decode cX3_nextTick 30 = .ok (.aload_n 0, 1) := by decide +kernel
theorem dX3_nextTick_31 : decode cX3_nextTick 31 = .ok (.getfield 24, 3) := by decide +kernel
theorem dX3_nextTick_34 : decode cX3_nextTick 34 = .ok (.iadd, 1) := by decide +kernel
theorem dX3_nextTick_35 : decode cX3_nextTick 35 = .ok (.invokevirtual 46, 3) := by decide +kernel
theorem dX3_nextTick_38 : decode cX3_nextTick 38 = .ok (.istore 6, 2) := by decide +kernel
theorem dX3_nextTick_40 : decode cX3_nextTick 40 = .ok (.iload_n 1, 1) := by decide +kernel
theorem dX3_nextTick_41 : decode cX3_nextTick 41 = .ok (.istore 7, 2) := by decide +kernel
theorem dX3_nextTick_43 : decode cX3_nextTick 43 = .ok (.iconst 0, 1) := by decide +kernel
theorem dX3_nextTick_44 : decode cX3_nextTick 44 = .ok (.istore 8, 2) := by decide +kernel
theorem dX3_nextTick_46 : decode cX3_nextTick 46 = .ok (.iload 8, 2) := by decide +kernel
theorem dX3_nextTick_48 : decode cX3_nextTick 48 = .ok (.bipush 100, 2) := by decide +kernel
theorem dX3_nextTick_50 : decode cX3_nextTick 50 = .ok (.if_icmp .gt 122, 3) := by decide +kernel
theorem dX3_nextTick_53 : decode cX3_nextTick 53 = .ok (.iload 7, 2) := by decide +kernel
theorem dX3_nextTick_55 : decode cX3_nextTick 55 = .ok (.iload_n 2, 1) := by decide +kernel
theorem dX3_nextTick_56 : decode cX3_nextTick 56 = .ok (.if_icmp .ge 116, 3) := by decide +kernel
theorem dX3_nextTick_59 : decode cX3_nextTick 59 = .ok (.aload_n 0, 1) := by decide +kernel
theorem dX3_nextTick_60 : decode cX3_nextTick 60 = .ok (.getfield 18, 3) := by decide +kernel
theorem dX3_nextTick_63 : decode cX3_nextTick 63 = .ok (.iload 5, 2) := by decide +kernel
theorem dX3_nextTick_65 : decode cX3_nextTick 65 = .ok (.invokevirtual 50, 3) := by decide +kernel
theorem dX3_nextTick_68 : decode cX3_nextTick 68 = .ok (.aload_n 0, 1) := by decide +kernel
theorem dX3_nextTick_69 : decode cX3_nextTick 69 = .ok (.getfield 21, 3) := by decide +kernel
theorem dX3_nextTick_72 : decode cX3_nextTick 72 = .ok (.iload 6, 2) := by decide +kernel
theorem dX3_nextTick_74 : decode cX3_nextTick 74 = .ok (.invokevirtual 50, 3) := by decide +kernel
theorem dX3_nextTick_77 : decode cX3_nextTick 77 = .ok (.aload_n 0, 1) := by decide +kernel
theorem dX3_nextTick_78 : decode cX3_nextTick 78 = .ok (.getfield 28, 3) := by decide +kernel
theorem dX3_nextTick_81 : decode cX3_nextTick 81 = .ok (.invokestatic 53, 3) := by decide +kernel
theorem dX3_nextTick_84 : decode cX3_nextTick 84 = .ok (.iload 4, 2) := by decide +kernel
theorem dX3_nextTick_86 : decode cX3_nextTick 86 = .ok (.if_icmp .ne 6, 3) := by decide +kernel
theorem dX3_nextTick_89 : decode cX3_nextTick 89 = .ok (.iload 7, 2) := by decide +kernel
theorem dX3_nextTick_91 : decode cX3_nextTick 91 = .ok (.ireturn, 1) := by decide +kernel
theorem dX3_nextTick_92 : decode cX3_nextTick 92 = .ok (.aload_n 0, 1) := by decide +kernel
theorem dX3_nextTick_93 : decode cX3_nextTick 93 = .ok (.getfield 18, 3) := by decide +kernel
theorem dX3_nextTick_96 : decode cX3_nextTick 96 = .ok (.iload 5, 2) := by decide +kernel
theorem dX3_nextTick_98 : decode cX3_nextTick 98 = .ok (.iconst 1, 1) := by decide +kernel
theorem dX3_nextTick_99 : decode cX3_nextTick 99 = .ok (.iadd, 1) := by decide +kernel
theorem dX3_nextTick_100 : decode cX3_nextTick 100 = .ok (.invokevirtual 57, 3) := by decide +kernel
theorem dX3_nextTick_103 : decode cX3_nextTick 103 = .ok (.istore 9, 2) := by decide +kernel
theorem dX3_nextTick_105 : decode cX3_nextTick 105 = .ok (.aload_n 0, 1) := by decide +kernel
theorem dX3_nextTick_106 : decode cX3_nextTick 106 = .ok (.getfield 21, 3) := by decide +kernel
theorem dX3_nextTick_109 : decode cX3_nextTick 109 = .ok (.iload 6, 2) := by decide +kernel
theorem dX3_nextTick_111 : decode cX3_nextTick 111 = .ok (.iconst 1, 1) := by decide +kernel
theorem dX3_nextTick_112 : decode cX3_nextTick 112 = .ok (.iadd, 1) := by decide +kernel
theorem dX3_nextTick_113 : decode cX3_nextTick 113 = .ok (.invokevirtual 57, 3) := by decide +kernel
theorem dX3_nextTick_116 : decode cX3_nextTick 116 = .ok (.aload_n 0, 1) := by decide +kernel
theorem dX3_nextTick_117 : decode cX3_nextTick 117 = .ok (.getfield 24, 3) := by decide +kernel
theorem dX3_nextTick_120 : decode cX3_nextTick 120 = .ok (.isub, 1) := by decide +kernel
theorem dX3_nextTick_121 : decode cX3_nextTick 121 = .ok (.istore 10, 2) := by decide +kernel
theorem dX3_nextTick_123 : decode cX3_nextTick 123 = .ok (.iload 9, 2) := by decide +kernel
theorem dX3_nextTick_125 : decode cX3_nextTick 125 = .ok (.iload 10, 2) := by decide +kernel
theorem dX3_nextTick_127 : decode cX3_nextTick 127 = .ok (.invokestatic 60, 3) := by decide +kernel
theorem dX3_nextTick_130 : decode cX3_nextTick 130 = .ok (.istore 7, 2) := by decide +kernel
theorem dX3_nextTick_132 : decode cX3_nextTick 132 = .ok (.iload 5, 2) := by decide +kernel
theorem dX3_nextTick_134 : decode cX3_nextTick 134 = .ok (.iload 9, 2) := by decide +kernel
theorem dX3_nextTick_136 : decode cX3_nextTick 136 = .ok (.iload 7, 2) := by decide +kernel
theorem dX3_nextTick_138 : decode cX3_nextTick 138 = .ok (.if_icmp .ne 7, 3) := by decide +kernel
theorem dX3_nextTick_141 : decode cX3_nextTick 141 = .ok (.iconst 1, 1) := by decide +kernel
theorem dX3_nextTick_142 : decode cX3_nextTick 142 = .ok (.goto 4, 3) := by decide +kernel
theorem dX3_nextTick_145 : decode cX3_nextTick 145 = .ok (.iconst 0, 1) := by decide +kernel
theorem dX3_nextTick_146 : decode cX3_nextTick 146 = .ok (.iadd, 1) := by decide +kernel
theorem dX3_nextTick_147 : decode cX3_nextTick 147 = .ok (.istore 5, 2) := by decide +kernel
theorem dX3_nextTick_149 : decode cX3_nextTick 149 = .ok (.iload 6, 2) := by decide +kernel
theorem dX3_nextTick_151 : decode cX3_nextTick 151 = .ok (.iload 10, 2) := by decide +kernel
theorem dX3_nextTick_153 : decode cX3_nextTick 153 = .ok (.iload 7, 2) := by decide +kernel
theorem dX3_nextTick_155 : decode cX3_nextTick 155 = .ok (.if_icmp .ne 7, 3) := by decide +kernel
theorem dX3_nextTick_158 : decode cX3_nextTick 158 = .ok (.iconst 1, 1) := by decide +kernel
theorem dX3_nextTick_159 : decode cX3_nextTick 159 = .ok (.goto 4, 3) := by decide +kernel
theorem dX3_nextTick_162 : decode cX3_nextTick 162 = .ok (.iconst 0, 1) := by decide +kernel
theorem dX3_nextTick_163 : decode cX3_nextTick 163 = .ok (.iadd, 1) := by decide +kernel
theorem dX3_nextTick_164 : decode cX3_nextTick 164 = .ok (.istore 6, 2) := by decide +kernel
theorem dX3_nextTick_166 : decode cX3_nextTick 166 = .ok (.iinc 8 1, 3) := by decide +kernel
theorem dX3_nextTick_169 : decode cX3_nextTick 169 = .ok (.goto (-123), 3) := by decide +kernel
theorem dX3_nextTick_172 : decode cX3_nextTick 172 = .ok (.iload_n 2, 1) := by decide +kernel
theorem dX3_nextTick_173 : decode cX3_nextTick 173 = .ok (.ireturn, 1) := by decide +kernel
theorem dX5_init_0 : decode cX5_init 0 = .ok (.aload_n 0, 1) := by decide +kernel
theorem dX5_init_1 : decode cX5_init 1 = .ok (.invokespecial 3, 3) := by decide +kernel
theorem dX5_init_4 : decode cX5_init 4 = .ok (.aload_n 0, 1) := by decide +kernel
theorem dX5_init_5 : decode cX5_init 5 = .ok (.bipush 11, 2) := by decide +kernel
theorem dX5_init_7 : decode cX5_init 7 = .ok (.anewarray 9, 3) := by decide +kernel
theorem dX5_init_10 : decode cX5_init 10 = .ok (.putfield 11, 3) := by decide +kernel
theorem dX5_init_13 : decode cX5_init 13 = .ok (.aload_n 0, 1) := by decide +kernel
theorem dX5_init_14 : decode cX5_init 14 = .ok (.iconst 0, 1) := by decide +kernel
theorem dX5_init_15 : decode cX5_init 15 = .ok (.putfield 17, 3) := by decide +kernel
theorem dX5_init_18 : decode cX5_init 18 = .ok (.aload_n 0, 1) := by decide +kernel
theorem dX5_init_19 : decode cX5_init 19 = .ok (.iconst 0, 1) := by decide +kernel
theorem dX5_init_20 : decode cX5_init 20 = .ok (.putfield 21, 3) := by decide +kernel
theorem dX5_init_23 : decode cX5_init 23 = .ok (.aload_n 0, 1) := by decide +kernel
theorem dX5_init_24 : decode cX5_init 24 = .ok (.iconst 0, 1) := by decide +kernel
theorem dX5_init_25 : decode cX5_init 25 = .ok (.putfield 24, 3) := by decide +kernel
theorem dX5_init_28 : decode cX5_init 28 = .ok (.aload_n 0, 1) := by decide +kernel
theorem dX5_init_29 : decode cX5_init 29 = .ok (.iconst 0, 1) := by decide +kernel
theorem dX5_init_30 : decode cX5_init 30 = .ok (.putfield 27, 3) := by decide +kernel
theorem dX5_init_33 : decode cX5_init 33 = .ok (.iconst 0, 1) := by decide +kernel
theorem dX5_init_34 : decode cX5_init 34 = .ok (.istore_n 1, 1) := by decide +kernel
theorem dX5_init_35 : decode cX5_init 35 = .ok (.iload_n 1, 1) := by decide +kernel
theorem dX5_init_36 : decode cX5_init 36 = .ok (.aload_n 0, 1) := by decide +kernel
theorem dX5_init_37 : decode cX5_init 37 = .ok (.getfield 11, 3) := by decide +kernel
theorem dX5_init_40 : decode cX5_init 40 = .ok (.arraylength, 1) := by decide +kernel
theorem dX5_init_41 : decode cX5_init 41 = .ok (.if_icmp .ge 22, 3) := by decide +kernel
theorem dX5_init_44 : decode cX5_init 44 = .ok (.aload_n 0, 1) := by decide +kernel
theorem dX5_init_45 : decode cX5_init 45 = .ok (.getfield 11, 3) := by decide +kernel
theorem dX5_init_48 : decode cX5_init 48 = .ok (.iload_n 1, 1) := by decide +kernel
theorem dX5_init_49 : decode cX5_init 49 = .ok (.new 9, 3) := by decide +kernel
theorem dX5_init_52 : decode cX5_init 52 = .ok (.dup, 1) := by decide +kernel
theorem dX5_init_53 : decode cX5_init 53 = .ok (.invokespecial 30, 3) := by decide +kernel
theorem dX5_init_56 : decode cX5_init 56 = .ok (.aastore, 1) := by decide +kernel
theorem dX5_init_57 : decode cX5_init 57 = .ok (.iinc 1 1, 3) := by decide +kernel
theorem dX5_init_60 : decode cX5_init 60 = .ok (.goto (-25), 3) := by decide +kernel
theorem dX5_init_63 : decode cX5_init 63 = .ok (.return_, 1) := by decide +kernel
theorem dX5_clear_0 : decode cX5_clear 0 = .ok (.aload_n 0, 1) := by decide +kernel
theorem dX5_clear_1 : decode cX5_clear 1 = .ok (.iconst 0, 1) := by decide +kernel
theorem dX5_clear_2 : decode cX5_clear 2 = .ok (.putfield 17, 3) := by decide +kernel
theorem dX5_clear_5 : decode cX5_clear 5 = .ok (.return_, 1) := by decide +kernel
theorem dX5_take_0 : decode cX5_take 0 = .ok (.aload_n 0, 1) := by decide +kernel
theorem dX5_take_1 : decode cX5_take 1 = .ok (.getfield 17, 3) := by decide +kernel
theorem dX5_take_4 : decode cX5_take 4 = .ok (.aload_n 0, 1) := by decide +kernel
theorem dX5_take_5 : decode cX5_take 5 = .ok (.getfield 11, 3) := by decide +kernel
theorem dX5_take_8 : decode cX5_take 8 = .ok (.arraylength, 1) := by decide +kernel
theorem dX5_take_9 : decode cX5_take 9 = .ok (.iconst 1, 1) := by decide +kernel
theorem dX5_take_10 : decode cX5_take 10 = .ok (.isub, 1) := by decide +kernel
theorem dX5_take_11 : decode cX5_take 11 = .ok (.invokestatic 31, 3) := by decide +kernel
theorem dX5_take_14 : decode cX5_take 14 = .ok (.istore_n 1, 1) := by decide +kernel
theorem dX5_take_15 : decode cX5_take 15 = .ok (.aload_n 0, 1) := by decide +kernel
theorem dX5_take_16 : decode cX5_take 16 = .ok (.iload_n 1, 1) := by decide +kernel
theorem dX5_take_17 : decode cX5_take 17 = .ok (.iconst 1, 1) := by decide +kernel
theorem dX5_take_18 : decode cX5_take 18 = .ok (.iadd, 1) := by decide +kernel
theorem dX5_take_19 : decode cX5_take 19 = .ok (.putfield 17, 3) := by decide +kernel
theorem dX5_take_22 : decode cX5_take 22 = .ok (.aload_n 0, 1) := by decide +kernel
theorem dX5_take_23 : decode cX5_take 23 = .ok (.getfield 11, 3) := by decide +kernel
theorem dX5_take_26 : decode cX5_take 26 = .ok (.iload_n 1, 1) := by decide +kernel
theorem dX5_take_27 : decode cX5_take 27 = .ok (.aaload, 1) := by decide +kernel
theorem dX5_take_28 : decode cX5_take 28 = .ok (.areturn, 1) := by decide +kernel
theorem dX5_start_0 : decode cX5_start 0 = .ok (.iload_n 1, 1) := by decide +kernel
theorem dX5_start_1 : decode cX5_start 1 = .ok (.istore_n 3, 1) := by decide +kernel
theorem dX5_start_2 : decode cX5_start 2 = .ok (.iconst 0, 1) := by decide +kernel
theorem dX5_start_3 : decode cX5_start 3 = .ok (.istore 4, 2) := by decide +kernel
theorem dX5_start_5 : decode cX5_start 5 = .ok (.iload 4, 2) := by decide +kernel
theorem dX5_start_7 : decode cX5_start 7 = .ok (.sipush 4000, 3) := by decide +kernel
theorem dX5_start_10 : decode cX5_start 10 = .ok (.if_icmp .gt 62, 3) := by decide +kernel
theorem dX5_start_13 : decode cX5_start 13 = .ok (.iload_n 3, 1) := by decide +kernel
theorem dX5_start_14 : decode cX5_start 14 = .ok (.iload_n 2, 1) := by decide +kernel
theorem dX5_start_15 : decode cX5_start 15 = .ok (.if_icmp .ge 57, 3) := by decide +kernel
theorem dX5_start_18 : decode cX5_start 18 = .ok (.iload_n 3, 1) := by decide +kernel
theorem dX5_start_19 : decode cX5_start 19 = .ok (.istore 5, 2) := by decide +kernel
theorem dX5_start_21 : decode cX5_start 21 = .ok (.iconst 0, 1) := by decide +kernel
theorem dX5_start_22 : decode cX5_start 22 = .ok (.istore 6, 2) := by decide +kernel
theorem dX5_start_24 : decode cX5_start 24 = .ok (.iload 6, 2) := by decide +kernel
theorem dX5_start_26 : decode cX5_start 26 = .ok (.aload_n 0, 1) := by decide +kernel
theorem dX5_start_27 : decode cX5_start 27 = .ok (.getfield 17, 3) := by decide +kernel
theorem dX5_start_30 : decode cX5_start 30 = .ok (.if_icmp .ge 28, 3) := by decide +kernel
theorem dX5_start_33 : decode cX5_start 33 = .ok (.iload_n 3, 1) := by decide +kernel
theorem dX5_start_34 : decode cX5_start 34 = .ok (.iload_n 2, 1) := by decide +kernel
theorem dX5_start_35 : decode cX5_start 35 = .ok (.if_icmp .ge 23, 3) := by decide +kernel
theorem dX5_start_38 : decode cX5_start 38 = .ok (.aload_n 0, 1) := by decide +kernel
theorem dX5_start_39 : decode cX5_start 39 = .ok (.getfield 11, 3) := by decide +kernel
theorem dX5_start_42 : decode cX5_start 42 = .ok (.iload 6, 2) := by decide +kernel
theorem dX5_start_44 : decode cX5_start 44 = .ok (.aaload, 1) := by decide +kernel
theorem dX5_start_45 : decode cX5_start 45 = .ok (.iload_n 3, 1) := by decide +kernel
theorem dX5_start_46 : decode cX5_start 46 = .ok (.iload_n 2, 1) := by decide +kernel
theorem dX5_start_47 : decode cX5_start 47 = .ok (.iconst 1, 1) := by decide +kernel
theorem dX5_start_48 : decode cX5_start 48 = .ok (.invokevirtual 37, 3) := by decide +kernel
theorem dX5_start_51 : decode cX5_start 51 = .ok (.istore_n 3, 1) := by decide +kernel
theorem dX5_start_52 : decode cX5_start 52 = .ok (.iinc 6 1, 3) := by decide +kernel
theorem dX5_start_55 : decode cX5_start 55 = .ok (.goto (-31), 3) := by decide +kernel
theorem dX5_start_58 : decode cX5_start 58 = .ok (.iload_n 3, 1) := by decide +kernel
theorem dX5_start_59 : decode cX5_start 59 = .ok (.iload 5, 2) := by decide +kernel
theorem dX5_start_61 : decode cX5_start 61 = .ok (.if_icmp .ne 5, 3) := by decide +kernel
theorem dX5_start_64 : decode cX5_start 64 = .ok (.iload_n 3, 1) := by decide +kernel
theorem dX5_start_65 : decode cX5_start 65 = .ok (.ireturn, 1) := by decide +kernel
theorem dX5_start_66 : decode cX5_start 66 = .ok (.iinc 4 1, 3) := by decide +kernel
theorem dX5_start_69 : decode cX5_start 69 = .ok (.goto (-64), 3) := by decide +kernel
theorem dX5_start_72 : decode cX5_start 72 = .ok (.iload_n 2, 1) := by decide +kernel
theorem dX5_start_73 : decode cX5_start 73 = .ok (.ireturn, 1) := by decide +kernel
theorem dX5_stop_0 : decode cX5_stop 0 = .ok (.iload_n 2, 1) := by decide +kernel
theorem dX5_stop_1 : decode cX5_stop 1 = .ok (.istore_n 3, 1) := by decide +kernel
theorem dX5_stop_2 : decode cX5_stop 2 = .ok (.iconst 0, 1) := by decide +kernel
theorem dX5_stop_3 : decode cX5_stop 3 = .ok (.istore 4, 2) := by decide +kernel
theorem dX5_stop_5 : decode cX5_stop 5 = .ok (.iload 4, 2) := by decide +kernel
theorem dX5_stop_7 : decode cX5_stop 7 = .ok (.aload_n 0, 1) := by decide +kernel
theorem dX5_stop_8 : decode cX5_stop 8 = .ok (.getfield 17, 3) := by decide +kernel
theorem dX5_stop_11 : decode cX5_stop 11 = .ok (.if_icmp .ge 23, 3) := by decide +kernel
theorem dX5_stop_14 : decode cX5_stop 14 = .ok (.aload_n 0, 1) := by decide +kernel
theorem dX5_stop_15 : decode cX5_stop 15 = .ok (.getfield 11, 3) := by decide +kernel
theorem dX5_stop_18 : decode cX5_stop 18 = .ok (.iload 4, 2) := by decide +kernel
theorem dX5_stop_20 : decode cX5_stop 20 = .ok (.aaload, 1) := by decide +kernel
theorem dX5_stop_21 : decode cX5_stop 21 = .ok (.iload_n 1, 1) := by decide +kernel
theorem dX5_stop_22 : decode cX5_stop 22 = .ok (.iload_n 3, 1) := by decide +kernel
theorem dX5_stop_23 : decode cX5_stop 23 = .ok (.iconst 0, 1) := by decide +kernel
theorem dX5_stop_24 : decode cX5_stop 24 = .ok (.invokevirtual 37, 3) := by decide +kernel
theorem dX5_stop_27 : decode cX5_stop 27 = .ok (.istore_n 3, 1) := by decide +kernel
theorem dX5_stop_28 : decode cX5_stop 28 = .ok (.iinc 4 1, 3) := by decide +kernel
theorem dX5_stop_31 : decode cX5_stop 31 = .ok (.goto (-26), 3) := by decide +kernel
theorem dX5_stop_34 : decode cX5_stop 34 = .ok (.iload_n 3, 1) := by decide +kernel
theorem dX5_stop_35 : decode cX5_stop 35 = .ok (.ireturn, 1) := by decide +kernel
theorem dX5_find_0 : decode cX5_find 0 = .ok (.aload_n 0, 1) := by decide +kernel
theorem dX5_find_1 : decode cX5_find 1 = .ok (.iconst 0, 1) := by decide +kernel
theorem dX5_find_2 : decode cX5_find 2 = .ok (.putfield 21, 3) := by decide +kernel
theorem dX5_find_5 : decode cX5_find 5 = .ok (.aload_n 0, 1) := by decide +kernel
theorem dX5_find_6 : decode cX5_find 6 = .ok (.aload_n 0, 1) := by decide +kernel
theorem dX5_find_7 : decode cX5_find 7 = .ok (.iconst 0, 1) := by decide +kernel
theorem dX5_find_8 : decode cX5_find 8 = .ok (.iload_n 3, 1) := by decide +kernel
theorem dX5_find_9 : decode cX5_find 9 = .ok (.invokevirtual 41, 3) := by decide +kernel
theorem dX5_find_12 : decode cX5_find 12 = .ok (.putfield 24, 3) := by decide +kernel
theorem dX5_find_15 : decode cX5_find 15 = .ok (.iconst 0, 1) := by decide +kernel
theorem dX5_find_16 : decode cX5_find 16 = .ok (.istore 4, 2) := by decide +kernel
theorem dX5_find_18 : decode cX5_find 18 = .ok (.iload 4, 2) := by decide +kernel
theorem dX5_find_20 : decode cX5_find 20 = .ok (.sipush 4000, 3) := by decide +kernel
theorem dX5_find_23 : decode cX5_find 23 = .ok (.if_icmp .gt 76, 3) := by decide +kernel
theorem dX5_find_26 : decode cX5_find 26 = .ok (.aload_n 0, 1) := by decide +kernel
theorem dX5_find_27 : decode cX5_find 27 = .ok (.getfield 24, 3) := by decide +kernel
theorem dX5_find_30 : decode cX5_find 30 = .ok (.iload_n 3, 1) := by decide +kernel
theorem dX5_find_31 : decode cX5_find 31 = .ok (.if_icmp .ge 68, 3) := by decide +kernel
theorem dX5_find_34 : decode cX5_find 34 = .ok (.aload_n 0, 1) := by decide +kernel
theorem dX5_find_35 : decode cX5_find 35 = .ok (.aload_n 0, 1) := by decide +kernel
theorem dX5_find_36 : decode cX5_find 36 = .ok (.aload_n 0, 1) := by decide +kernel
theorem dX5_find_37 : decode cX5_find 37 = .ok (.getfield 24, 3) := by decide +kernel
theorem dX5_find_40 : decode cX5_find 40 = .ok (.iload_n 3, 1) := by decide +kernel
theorem dX5_find_41 : decode cX5_find 41 = .ok (.invokevirtual 44, 3) := by decide +kernel
theorem dX5_find_44 : decode cX5_find 44 = .ok (.putfield 27, 3) := by decide +kernel
theorem dX5_find_47 : decode cX5_find 47 = .ok (.aload_n 0, 1) := by decide +kernel
theorem dX5_find_48 : decode cX5_find 48 = .ok (.getfield 27, 3) := by decide +kernel
theorem dX5_find_51 : decode cX5_find 51 = .ok (.aload_n 0, 1) := by decide +kernel
theorem dX5_find_52 : decode cX5_find 52 = .ok (.getfield 24, 3) := by decide +kernel
theorem dX5_find_55 : decode cX5_find 55 = .ok (.isub, 1) := by decide +kernel
theorem dX5_find_56 : decode cX5_find 56 = .ok (.iload_n 2, 1) := by decide +kernel
theorem dX5_find_57 : decode cX5_find 57 = .ok (.if_icmp .lt 23, 3) := by decide +kernel
theorem dX5_find_60 : decode cX5_find 60 = .ok (.aload_n 0, 1) := by decide +kernel
theorem dX5_find_61 : decode cX5_find 61 = .ok (.getfield 21, 3) := by decide +kernel
theorem dX5_find_64 : decode cX5_find 64 = .ok (.iload_n 1, 1) := by decide +kernel
theorem dX5_find_65 : decode cX5_find 65 = .ok (.if_icmp .ne 5, 3) := by decide +kernel
theorem dX5_find_68 : decode cX5_find 68 = .ok (.iconst 1, 1) := by decide +kernel
theorem dX5_find_69 : decode cX5_find 69 = .ok (.ireturn, 1) := by decide +kernel
theorem dX5_find_70 : decode cX5_find 70 = .ok (.aload_n 0, 1) := by decide +kernel
theorem dX5_find_71 : decode cX5_find 71 = .ok (.dup, 1) := by decide +kernel
theorem dX5_find_72 : decode cX5_find 72 = .ok (.getfield 21, 3) := by decide +kernel
theorem dX5_find_75 : decode cX5_find 75 = .ok (.iconst 1, 1) := by decide +kernel
theorem dX5_find_76 : decode cX5_find 76 = .ok (.iadd, 1) := by decide +kernel
theorem dX5_find_77 : decode cX5_find 77 = .ok (.putfield 21, 3) := by decide +kernel
theorem dX5_find_80 : decode cX5_find 80 = .ok (.aload_n 0, 1) := by decide +kernel
theorem dX5_find_81 : decode cX5_find 81 = .ok (.aload_n 0, 1) := by decide +kernel
theorem dX5_find_82 : decode cX5_find 82 = .ok (.aload_n 0, 1) := by decide +kernel
theorem dX5_find_83 : decode cX5_find 83 = .ok (.getfield 27, 3) := by decide +kernel
theorem dX5_find_86 : decode cX5_find 86 = .ok (.iload_n 3, 1) := by decide +kernel
theorem dX5_find_87 : decode cX5_find 87 = .ok (.invokevirtual 41, 3) := by decide +kernel
theorem dX5_find_90 : decode cX5_find 90 = .ok (.putfield 24, 3) := by decide +kernel
theorem dX5_find_93 : decode cX5_find 93 = .ok (.iinc 4 1, 3) := by decide +kernel
theorem dX5_find_96 : decode cX5_find 96 = .ok (.goto (-78), 3) := by decide +kernel
theorem dX5_find_99 : decode cX5_find 99 = .ok (.iconst 0, 1) := by decide +kernel
theorem dX5_find_100 : decode cX5_find 100 = .ok (.ireturn, 1) := by decide +kernel
theorem dX5_howMany_0 : decode cX5_howMany 0 = .ok (.aload_n 0, 1) := by decide +kernel
theorem dX5_howMany_1 : decode cX5_howMany 1 = .ok (.iconst (-1), 1) := by decide +kernel
theorem dX5_howMany_2 : decode cX5_howMany 2 = .ok (.iload_n 1, 1) := by decide +kernel
theorem dX5_howMany_3 : decode cX5_howMany 3 = .ok (.iload_n 2, 1) := by decide +kernel
theorem dX5_howMany_4 : decode cX5_howMany 4 = .ok (.invokevirtual 47, 3) := by decide +kernel
theorem dX5_howMany_7 : decode cX5_howMany 7 = .ok (.pop, 1) := by decide +kernel
theorem dX5_howMany_8 : decode cX5_howMany 8 = .ok (.aload_n 0, 1) := by decide +kernel
theorem dX5_howMany_9 : decode cX5_howMany 9 = .ok (.getfield 21, 3) := by decide +kernel
theorem dX5_howMany_12 : decode cX5_howMany 12 = .ok (.ireturn, 1) := by decide +kernel
theorem dX5_seen_0 : decode cX5_seen 0 = .ok (.aload_n 0, 1) := by decide +kernel
theorem dX5_seen_1 : decode cX5_seen 1 = .ok (.getfield 21, 3) := by decide +kernel
theorem dX5_seen_4 : decode cX5_seen 4 = .ok (.ireturn, 1) := by decide +kernel
theorem dX5_edgeFound_0 : decode cX5_edgeFound 0 = .ok (.iload_n 1, 1) := by decide +kernel
theorem dX5_edgeFound_1 : decode cX5_edgeFound 1 = .ok (.ifCond .ne 10, 3) := by decide +kernel
theorem dX5_edgeFound_4 : decode cX5_edgeFound 4 = .ok (.aload_n 0, 1) := by decide +kernel
theorem dX5_edgeFound_5 : decode cX5_edgeFound 5 = .ok (.getfield 24, 3) := by decide +kernel
theorem dX5_edgeFound_8 : decode cX5_edgeFound 8 = .ok (.goto 7, 3) := by decide +kernel
theorem dX5_edgeFound_11 : decode cX5_edgeFound 11 = .ok (.aload_n 0, 1) := by decide +kernel
theorem dX5_edgeFound_12 : decode cX5_edgeFound 12 = .ok (.getfield 27, 3) := by decide +kernel
theorem dX5_edgeFound_15 : decode cX5_edgeFound 15 = .ok (.ireturn, 1) := by decide +kernel
end
section
theorem dX6_init_0 : decode cX6_init 0 = .ok (.aload_n 0, 1) := by decide +kernel
theorem dX6_init_1 : decode cX6_init 1 = .ok (.invokespecial 1, 3) := by decide +kernel
theorem dX6_init_4 : decode cX6_init 4 = .ok (.aload_n 0, 1) := by decide +kernel
theorem dX6_init_5 : decode cX6_init 5 = .ok (.bipush 24, 2) := by decide +kernel
theorem dX6_init_7 : decode cX6_init 7 = .ok (.anewarray 9, 3) := by decide +kernel
theorem dX6_init_10 : decode cX6_init 10 = .ok (.putfield 11, 3) := by decide +kernel
theorem dX6_init_13 : decode cX6_init 13 = .ok (.aload_n 0, 1) := by decide +kernel
theorem dX6_init_14 : decode cX6_init 14 = .ok (.bipush 12, 2) := by decide +kernel
theorem dX6_init_16 : decode cX6_init 16 = .ok (.newarray .int, 2) := by decide +kernel
theorem dX6_init_18 : decode cX6_init 18 = .ok (.putfield 15, 3) := by decide +kernel
theorem dX6_init_21 : decode cX6_init 21 = .ok (.aload_n 0, 1) := by decide +kernel
theorem dX6_init_22 : decode cX6_init 22 = .ok (.bipush 12, 2) := by decide +kernel
theorem dX6_init_24 : decode cX6_init 24 = .ok (.newarray .int, 2) := by decide +kernel
theorem dX6_init_26 : decode cX6_init 26 = .ok (.putfield 19, 3) := by decide +kernel
theorem dX6_init_29 : decode cX6_init 29 = .ok (.aload_n 0, 1) := by decide +kernel
theorem dX6_init_30 : decode cX6_init 30 = .ok (.iconst 4, 1) := by decide +kernel
theorem dX6_init_31 : decode cX6_init 31 = .ok (.newarray .int, 2) := by decide +kernel
theorem dX6_init_33 : decode cX6_init 33 = .ok (.putfield 22, 3) := by decide +kernel
theorem dX6_init_36 : decode cX6_init 36 = .ok (.aload_n 0, 1) := by decide +kernel
theorem dX6_init_37 : decode cX6_init 37 = .ok (.bipush 10, 2) := by decide +kernel
theorem dX6_init_39 : decode cX6_init 39 = .ok (.anewarray 25, 3) := by decide +kernel
theorem dX6_init_42 : decode cX6_init 42 = .ok (.putfield 27, 3) := by decide +kernel
theorem dX6_init_45 : decode cX6_init 45 = .ok (.aload_n 0, 1) := by decide +kernel
theorem dX6_init_46 : decode cX6_init 46 = .ok (.iconst 4, 1) := by decide +kernel
theorem dX6_init_47 : decode cX6_init 47 = .ok (.anewarray 31, 3) := by decide +kernel
theorem dX6_init_50 : decode cX6_init 50 = .ok (.putfield 33, 3) := by decide +kernel
theorem dX6_init_53 : decode cX6_init 53 = .ok (.aload_n 0, 1) := by decide +kernel
theorem dX6_init_54 : decode cX6_init 54 = .ok (.bipush 12, 2) := by decide +kernel
theorem dX6_init_56 : decode cX6_init 56 = .ok (.anewarray 37, 3) := by decide +kernel
theorem dX6_init_59 : decode cX6_init 59 = .ok (.putfield 39, 3) := by decide +kernel
theorem dX6_init_62 : decode cX6_init 62 = .ok (.aload_n 0, 1) := by decide +kernel
theorem dX6_init_63 : decode cX6_init 63 = .ok (.new 43, 3) := by decide +kernel
theorem dX6_init_66 : decode cX6_init 66 = .ok (.dup, 1) := by decide +kernel
theorem dX6_init_67 : decode cX6_init 67 = .ok (.invokespecial 45, 3) := by decide +kernel
theorem dX6_init_70 : decode cX6_init 70 = .ok (.putfield 46, 3) := by decide +kernel
theorem dX6_init_73 : decode cX6_init 73 = .ok (.aload_n 0, 1) := by decide +kernel
theorem dX6_init_74 : decode cX6_init 74 = .ok (.iconst 0, 1) := by decide +kernel
theorem dX6_init_75 : decode cX6_init 75 = .ok (.putfield 50, 3) := by decide +kernel
theorem dX6_init_78 : decode cX6_init 78 = .ok (.aload_n 0, 1) := by decide +kernel
theorem dX6_init_79 : decode cX6_init 79 = .ok (.sipush 1000, 3) := by decide +kernel
theorem dX6_init_82 : decode cX6_init 82 = .ok (.putfield 54, 3) := by decide +kernel
theorem dX6_init_85 : decode cX6_init 85 = .ok (.aload_n 0, 1) := by decide +kernel
theorem dX6_init_86 : decode cX6_init 86 = .ok (.iconst 0, 1) := by decide +kernel
theorem dX6_init_87 : decode cX6_init 87 = .ok (.putfield 57, 3) := by decide +kernel
theorem dX6_init_90 : decode cX6_init 90 = .ok (.iconst 0, 1) := by decide +kernel
theorem dX6_init_91 : decode cX6_init 91 = .ok (.istore_n 1, 1) := by decide +kernel
theorem dX6_init_92 : decode cX6_init 92 = .ok (.iload_n 1, 1) := by decide +kernel
theorem dX6_init_93 : decode cX6_init 93 = .ok (.aload_n 0, 1) := by decide +kernel
theorem dX6_init_94 : decode cX6_init 94 = .ok (.getfield 11, 3) := by decide +kernel
theorem dX6_init_97 : decode cX6_init 97 = .ok (.arraylength, 1) := by decide +kernel
theorem dX6_init_98 : decode cX6_init 98 = .ok (.if_icmp .ge 22, 3) := by decide +kernel
theorem dX6_init_101 : decode cX6_init 101 = .ok (.aload_n 0, 1) := by decide +kernel
theorem dX6_init_102 : decode cX6_init 102 = .ok (.getfield 11, 3) := by decide +kernel
theorem dX6_init_105 : decode cX6_init 105 = .ok (.iload_n 1, 1) := by decide +kernel
theorem dX6_init_106 : decode cX6_init 106 = .ok (.new 9, 3) := by decide +kernel
theorem dX6_init_109 : decode cX6_init 109 = .ok (.dup, 1) := by decide +kernel
theorem dX6_init_110 : decode cX6_init 110 = .ok (.invokespecial 61, 3) := by decide +kernel
theorem dX6_init_113 : decode cX6_init 113 = .ok (.aastore, 1) := by decide +kernel
theorem dX6_init_114 : decode cX6_init 114 = .ok (.iinc 1 1, 3) := by decide +kernel
theorem dX6_init_117 : decode cX6_init 117 = .ok (.goto (-25), 3) := by decide +kernel
theorem dX6_init_120 : decode cX6_init 120 = .ok (.iconst 0, 1) := by decide +kernel
theorem dX6_init_121 : decode cX6_init 121 = .ok (.istore_n 1, 1) := by decide +kernel
theorem dX6_init_122 : decode cX6_init 122 = .ok (.iload_n 1, 1) := by decide +kernel
theorem dX6_init_123 : decode cX6_init 123 = .ok (.bipush 12, 2) := by decide +kernel
theorem dX6_init_125 : decode cX6_init 125 = .ok (.if_icmp .ge 29, 3) := by decide +kernel
theorem dX6_init_128 : decode cX6_init 128 = .ok (.aload_n 0, 1) := by decide +kernel
theorem dX6_init_129 : decode cX6_init 129 = .ok (.getfield 15, 3) := by decide +kernel
theorem dX6_init_132 : decode cX6_init 132 = .ok (.iload_n 1, 1) := by decide +kernel
theorem dX6_init_133 : decode cX6_init 133 = .ok (.iload_n 1, 1) := by decide +kernel
theorem dX6_init_134 : decode cX6_init 134 = .ok (.iastore, 1) := by decide +kernel
theorem dX6_init_135 : decode cX6_init 135 = .ok (.aload_n 0, 1) := by decide +kernel
theorem dX6_init_136 : decode cX6_init 136 = .ok (.getfield 39, 3) := by decide +kernel
theorem dX6_init_139 : decode cX6_init 139 = .ok (.iload_n 1, 1) := by decide +kernel
theorem dX6_init_140 : decode cX6_init 140 = .ok (.new 37, 3) := by decide +kernel
theorem dX6_init_143 : decode cX6_init 143 = .ok (.dup, 1) := by decide +kernel
theorem dX6_init_144 : decode cX6_init 144 = .ok (.invokespecial 62, 3) := by decide +kernel
theorem dX6_init_147 : decode cX6_init 147 = .ok (.aastore, 1) := by decide +kernel
theorem dX6_init_148 : decode cX6_init 148 = .ok (.iinc 1 1, 3) := by decide +kernel
theorem dX6_init_151 : decode cX6_init 151 = .ok (.goto (-29), 3) := by decide +kernel
theorem dX6_init_154 : decode cX6_init 154 = .ok (.iconst 0, 1) := by decide +kernel
theorem dX6_init_155 : decode cX6_init 155 = .ok (.istore_n 1, 1) := by decide +kernel
theorem dX6_init_156 : decode cX6_init 156 = .ok (.iload_n 1, 1) := by decide +kernel
theorem dX6_init_157 : decode cX6_init 157 = .ok (.aload_n 0, 1) := by decide +kernel
theorem dX6_init_158 : decode cX6_init 158 = .ok (.getfield 27, 3) := by decide +kernel
theorem dX6_init_161 : decode cX6_init 161 = .ok (.arraylength, 1) := by decide +kernel
theorem dX6_init_162 : decode cX6_init 162 = .ok (.if_icmp .ge 22, 3) := by decide +kernel
theorem dX6_init_165 : decode cX6_init 165 = .ok (.aload_n 0, 1) := by decide +kernel
theorem dX6_init_166 : decode cX6_init 166 = .ok (.getfield 27, 3) := by decide +kernel
theorem dX6_init_169 : decode cX6_init 169 = .ok (.iload_n 1, 1) := by decide +kernel
theorem dX6_init_170 : decode cX6_init 170 = .ok (.new 25, 3) := by decide +kernel
theorem dX6_init_173 : decode cX6_init 173 = .ok (.dup, 1) := by decide +kernel
theorem dX6_init_174 : decode cX6_init 174 = .ok (.invokespecial 63, 3) := by decide +kernel
theorem dX6_init_177 : decode cX6_init 177 = .ok (.aastore, 1) := by decide +kernel
theorem dX6_init_178 : decode cX6_init 178 = .ok (.iinc 1 1, 3) := by decide +kernel
theorem dX6_init_181 : decode cX6_init 181 = .ok (.goto (-25), 3) := by decide +kernel
theorem dX6_init_184 : decode cX6_init 184 = .ok (.iconst 0, 1) := by decide +kernel
theorem dX6_init_185 : decode cX6_init 185 = .ok (.istore_n 1, 1) := by decide +kernel
theorem dX6_init_186 : decode cX6_init 186 = .ok (.iload_n 1, 1) := by decide +kernel
theorem dX6_init_187 : decode cX6_init 187 = .ok (.aload_n 0, 1) := by decide +kernel
theorem dX6_init_188 : decode cX6_init 188 = .ok (.getfield 33, 3) := by decide +kernel
theorem dX6_init_191 : decode cX6_init 191 = .ok (.arraylength, 1) := by decide +kernel
theorem dX6_init_192 : decode cX6_init 192 = .ok (.if_icmp .ge 22, 3) := by decide +kernel
theorem dX6_init_195 : decode cX6_init 195 = .ok (.aload_n 0, 1) := by decide +kernel
theorem dX6_init_196 : decode cX6_init 196 = .ok (.getfield 33, 3) := by decide +kernel
theorem dX6_init_199 : decode cX6_init 199 = .ok (.iload_n 1, 1) := by decide +kernel
theorem dX6_init_200 : decode cX6_init 200 = .ok (.new 31, 3) := by decide +kernel
theorem dX6_init_203 : decode cX6_init 203 = .ok (.dup, 1) := by decide +kernel
theorem dX6_init_204 : decode cX6_init 204 = .ok (.invokespecial 64, 3) := by decide +kernel
theorem dX6_init_207 : decode cX6_init 207 = .ok (.aastore, 1) := by decide +kernel
theorem dX6_init_208 : decode cX6_init 208 = .ok (.iinc 1 1, 3) := by decide +kernel
theorem dX6_init_211 : decode cX6_init 211 = .ok (.goto (-25), 3) := by decide +kernel
theorem dX6_init_214 : decode cX6_init 214 = .ok (.return_, 1) := by decide +kernel
theorem dX6_change_0 : decode cX6_change 0 = .ok (.iload_n 1, 1) := by decide +kernel
theorem dX6_change_1 : decode cX6_change 1 = .ok (.iload_n 2, 1) := by decide +kernel
theorem dX6_change_2 : decode cX6_change 2 = .ok (.invokestatic 65, 3) := by decide +kernel
theorem dX6_change_5 : decode cX6_change 5 = .ok (.ifCond .ne 22, 3) := by decide +kernel
theorem dX6_change_8 : decode cX6_change 8 = .ok (.iload_n 3, 1) := by decide +kernel
theorem dX6_change_9 : decode cX6_change 9 = .ok (.iconst 0, 1) := by decide +kernel
theorem dX6_change_10 : decode cX6_change 10 = .ok (.sipush 3999, 3) := by decide +kernel
theorem dX6_change_13 : decode cX6_change 13 = .ok (.invokestatic 69, 3) := by decide +kernel
theorem dX6_change_16 : decode cX6_change 16 = .ok (.ifCond .ne 11, 3) := by decide +kernel
theorem dX6_change_19 : decode cX6_change 19 = .ok (.iload 4, 2) := by decide +kernel
theorem dX6_change_21 : decode cX6_change 21 = .ok (.invokestatic 73, 3) := by decide +kernel
theorem dX6_change_24 : decode cX6_change 24 = .ok (.ifCond .eq 5, 3) := by decide +kernel
theorem dX6_change_27 : decode cX6_change 27 = .ok (.iconst (-1), 1) := by decide +kernel
theorem dX6_change_28 : decode cX6_change 28 = .ok (.ireturn, 1) := by decide +kernel
theorem dX6_change_29 : decode cX6_change 29 = .ok (.aload_n 0, 1) := by decide +kernel
theorem dX6_change_30 : decode cX6_change 30 = .ok (.iload_n 1, 1) := by decide +kernel
theorem dX6_change_31 : decode cX6_change 31 = .ok (.iload_n 2, 1) := by decide +kernel
theorem dX6_change_32 : decode cX6_change 32 = .ok (.invokevirtual 77, 3) := by decide +kernel
theorem dX6_change_35 : decode cX6_change 35 = .ok (.astore 5, 2) := by decide +kernel
theorem dX6_change_37 : decode cX6_change 37 = .ok (.aload 5, 2) := by decide +kernel
theorem dX6_change_39 : decode cX6_change 39 = .ok (.invokevirtual 81, 3) := by decide +kernel
theorem dX6_change_42 : decode cX6_change 42 = .ok (.iload_n 3, 1) := by decide +kernel
theorem dX6_change_43 : decode cX6_change 43 = .ok (.if_icmp .lt 6, 3) := by decide +kernel
theorem dX6_change_46 : decode cX6_change 46 = .ok (.bipush (-2), 2) := by decide +kernel
theorem dX6_change_48 : decode cX6_change 48 = .ok (.ireturn, 1) := by decide +kernel
theorem dX6_change_49 : decode cX6_change 49 = .ok (.aload 5, 2) := by decide +kernel
theorem dX6_change_51 : decode cX6_change 51 = .ok (.iconst 1, 1) := by decide +kernel
theorem dX6_change_52 : decode cX6_change 52 = .ok (.invokevirtual 85, 3) := by decide +kernel
theorem dX6_change_55 : decode cX6_change 55 = .ok (.ifCond .eq 6, 3) := by decide +kernel
theorem dX6_change_58 : decode cX6_change 58 = .ok (.bipush (-3), 2) := by decide +kernel
theorem dX6_change_60 : decode cX6_change 60 = .ok (.ireturn, 1) := by decide +kernel
theorem dX6_change_61 : decode cX6_change 61 = .ok (.aload 5, 2) := by decide +kernel
theorem dX6_change_63 : decode cX6_change 63 = .ok (.iload_n 3, 1) := by decide +kernel
theorem dX6_change_64 : decode cX6_change 64 = .ok (.iload 4, 2) := by decide +kernel
theorem dX6_change_66 : decode cX6_change 66 = .ok (.invokevirtual 88, 3) := by decide +kernel
theorem dX6_change_69 : decode cX6_change 69 = .ok (.aload 5, 2) := by decide +kernel
theorem dX6_change_71 : decode cX6_change 71 = .ok (.invokevirtual 92, 3) := by decide +kernel
theorem dX6_change_74 : decode cX6_change 74 = .ok (.ireturn, 1) := by decide +kernel
theorem dX6_changes_0 : decode cX6_changes 0 = .ok (.iload_n 1, 1) := by decide +kernel
theorem dX6_changes_1 : decode cX6_changes 1 = .ok (.iload_n 2, 1) := by decide +kernel
theorem dX6_changes_2 : decode cX6_changes 2 = .ok (.invokestatic 65, 3) := by decide +kernel
theorem dX6_changes_5 : decode cX6_changes 5 = .ok (.ifCond .ne 12, 3) := by decide +kernel
theorem dX6_changes_8 : decode cX6_changes 8 = .ok (.iload_n 3, 1) := by decide +kernel
theorem dX6_changes_9 : decode cX6_changes 9 = .ok (.iconst 1, 1) := by decide +kernel
theorem dX6_changes_10 : decode cX6_changes 10 = .ok (.iconst 4, 1) := by decide +kernel
theorem dX6_changes_11 : decode cX6_changes 11 = .ok (.invokestatic 69, 3) := by decide +kernel
theorem dX6_changes_14 : decode cX6_changes 14 = .ok (.ifCond .eq 5, 3) := by decide +kernel
theorem dX6_changes_17 : decode cX6_changes 17 = .ok (.iconst (-1), 1) := by decide +kernel
theorem dX6_changes_18 : decode cX6_changes 18 = .ok (.ireturn, 1) := by decide +kernel
theorem dX6_changes_19 : decode cX6_changes 19 = .ok (.aload_n 0, 1) := by decide +kernel
theorem dX6_changes_20 : decode cX6_changes 20 = .ok (.iload_n 1, 1) := by decide +kernel
theorem dX6_changes_21 : decode cX6_changes 21 = .ok (.iload_n 2, 1) := by decide +kernel
theorem dX6_changes_22 : decode cX6_changes 22 = .ok (.invokevirtual 77, 3) := by decide +kernel
theorem dX6_changes_25 : decode cX6_changes 25 = .ok (.astore 6, 2) := by decide +kernel
theorem dX6_changes_27 : decode cX6_changes 27 = .ok (.aload 6, 2) := by decide +kernel
theorem dX6_changes_29 : decode cX6_changes 29 = .ok (.invokevirtual 81, 3) := by decide +kernel
theorem dX6_changes_32 : decode cX6_changes 32 = .ok (.iload_n 3, 1) := by decide +kernel
theorem dX6_changes_33 : decode cX6_changes 33 = .ok (.lload 4, 2) := by decide +kernel
theorem dX6_changes_35 : decode cX6_changes 35 = .ok (.invokestatic 95, 3) := by decide +kernel
theorem dX6_changes_38 : decode cX6_changes 38 = .ok (.ifCond .ne 5, 3) := by decide +kernel
theorem dX6_changes_41 : decode cX6_changes 41 = .ok (.iconst (-1), 1) := by decide +kernel
theorem dX6_changes_42 : decode cX6_changes 42 = .ok (.ireturn, 1) := by decide +kernel
theorem dX6_changes_43 : decode cX6_changes 43 = .ok (.aload 6, 2) := by decide +kernel
theorem dX6_changes_45 : decode cX6_changes 45 = .ok (.iload_n 3, 1) := by decide +kernel
theorem dX6_changes_46 : decode cX6_changes 46 = .ok (.invokevirtual 85, 3) := by decide +kernel
theorem dX6_changes_49 : decode cX6_changes 49 = .ok (.ifCond .eq 6, 3) := by decide +kernel
theorem dX6_changes_52 : decode cX6_changes 52 = .ok (.bipush (-3), 2) := by decide +kernel
theorem dX6_changes_54 : decode cX6_changes 54 = .ok (.ireturn, 1) := by decide +kernel
theorem dX6_changes_55 : decode cX6_changes 55 = .ok (.iconst 0, 1) := by decide +kernel
theorem dX6_changes_56 : decode cX6_changes 56 = .ok (.istore 7, 2) := by decide +kernel
theorem dX6_changes_58 : decode cX6_changes 58 = .ok (.iload 7, 2) := by decide +kernel
theorem dX6_changes_60 : decode cX6_changes 60 = .ok (.iload_n 3, 1) := by decide +kernel
theorem dX6_changes_61 : decode cX6_changes 61 = .ok (.if_icmp .ge 36, 3) := by decide +kernel
theorem dX6_changes_64 : decode cX6_changes 64 = .ok (.aload 6, 2) := by decide +kernel
theorem dX6_changes_66 : decode cX6_changes 66 = .ok (.aload 6, 2) := by decide +kernel
theorem dX6_changes_68 : decode cX6_changes 68 = .ok (.invokevirtual 81, 3) := by decide +kernel
theorem dX6_changes_71 : decode cX6_changes 71 = .ok (.iload_n 3, 1) := by decide +kernel
theorem dX6_changes_72 : decode cX6_changes 72 = .ok (.lload 4, 2) := by decide +kernel
theorem dX6_changes_74 : decode cX6_changes 74 = .ok (.iload 7, 2) := by decide +kernel
theorem dX6_changes_76 : decode cX6_changes 76 = .ok (.invokestatic 99, 3) := by decide +kernel
theorem dX6_changes_79 : decode cX6_changes 79 = .ok (.iadd, 1) := by decide +kernel
theorem dX6_changes_80 : decode cX6_changes 80 = .ok (.iload_n 3, 1) := by decide +kernel
theorem dX6_changes_81 : decode cX6_changes 81 = .ok (.lload 4, 2) := by decide +kernel
theorem dX6_changes_83 : decode cX6_changes 83 = .ok (.iload 7, 2) := by decide +kernel
theorem dX6_changes_85 : decode cX6_changes 85 = .ok (.invokestatic 103, 3) := by decide +kernel
theorem dX6_changes_88 : decode cX6_changes 88 = .ok (.invokevirtual 88, 3) := by decide +kernel
theorem dX6_changes_91 : decode cX6_changes 91 = .ok (.iinc 7 1, 3) := by decide +kernel
theorem dX6_changes_94 : decode cX6_changes 94 = .ok (.goto (-36), 3) := by decide +kernel
theorem dX6_changes_97 : decode cX6_changes 97 = .ok (.aload 6, 2) := by decide +kernel
theorem dX6_changes_99 : decode cX6_changes 99 = .ok (.invokevirtual 92, 3) := by decide +kernel
theorem dX6_changes_102 : decode cX6_changes 102 = .ok (.ireturn, 1) := by decide +kernel
theorem dX6_cut_0 : decode cX6_cut 0 = .ok (.iload_n 1, 1) := by decide +kernel
theorem dX6_cut_1 : decode cX6_cut 1 = .ok (.iload_n 2, 1) := by decide +kernel
theorem dX6_cut_2 : decode cX6_cut 2 = .ok (.invokestatic 65, 3) := by decide +kernel
theorem dX6_cut_5 : decode cX6_cut 5 = .ok (.ifCond .ne 14, 3) := by decide +kernel
theorem dX6_cut_8 : decode cX6_cut 8 = .ok (.iload_n 3, 1) := by decide +kernel
theorem dX6_cut_9 : decode cX6_cut 9 = .ok (.iconst 0, 1) := by decide +kernel
theorem dX6_cut_10 : decode cX6_cut 10 = .ok (.sipush 3999, 3) := by decide +kernel
theorem dX6_cut_13 : decode cX6_cut 13 = .ok (.invokestatic 69, 3) := by decide +kernel
theorem dX6_cut_16 : decode cX6_cut 16 = .ok (.ifCond .eq 5, 3) := by decide +kernel
theorem dX6_cut_19 : decode cX6_cut 19 = .ok (.iconst (-1), 1) := by decide +kernel
theorem dX6_cut_20 : decode cX6_cut 20 = .ok (.ireturn, 1) := by decide +kernel
theorem dX6_cut_21 : decode cX6_cut 21 = .ok (.aload_n 0, 1) := by decide +kernel
theorem dX6_cut_22 : decode cX6_cut 22 = .ok (.iload_n 1, 1) := by decide +kernel
theorem dX6_cut_23 : decode cX6_cut 23 = .ok (.iload_n 2, 1) := by decide +kernel
theorem dX6_cut_24 : decode cX6_cut 24 = .ok (.invokevirtual 77, 3) := by decide +kernel
theorem dX6_cut_27 : decode cX6_cut 27 = .ok (.iload_n 3, 1) := by decide +kernel
theorem dX6_cut_28 : decode cX6_cut 28 = .ok (.invokevirtual 106, 3) := by decide +kernel
theorem dX6_cut_31 : decode cX6_cut 31 = .ok (.ireturn, 1) := by decide +kernel
theorem dX6_value_0 : decode cX6_value 0 = .ok (.iload_n 1, 1) := by decide +kernel
theorem dX6_value_1 : decode cX6_value 1 = .ok (.iload_n 2, 1) := by decide +kernel
theorem dX6_value_2 : decode cX6_value 2 = .ok (.invokestatic 65, 3) := by decide +kernel
theorem dX6_value_5 : decode cX6_value 5 = .ok (.ifCond .ne 14, 3) := by decide +kernel
theorem dX6_value_8 : decode cX6_value 8 = .ok (.iload_n 3, 1) := by decide +kernel
theorem dX6_value_9 : decode cX6_value 9 = .ok (.iconst 0, 1) := by decide +kernel
theorem dX6_value_10 : decode cX6_value 10 = .ok (.sipush 3999, 3) := by decide +kernel
theorem dX6_value_13 : decode cX6_value 13 = .ok (.invokestatic 69, 3) := by decide +kernel
theorem dX6_value_16 : decode cX6_value 16 = .ok (.ifCond .eq 5, 3) := by decide +kernel
theorem dX6_value_19 : decode cX6_value 19 = .ok (.iconst (-1), 1) := by decide +kernel
theorem dX6_value_20 : decode cX6_value 20 = .ok (.ireturn, 1) := by decide +kernel
theorem dX6_value_21 : decode cX6_value 21 = .ok (.aload_n 0, 1) := by decide +kernel
theorem dX6_value_22 : decode cX6_value 22 = .ok (.iload_n 1, 1) := by decide +kernel
theorem dX6_value_23 : decode cX6_value 23 = .ok (.iload_n 2, 1) := by decide +kernel
theorem dX6_value_24 : decode cX6_value 24 = .ok (.invokevirtual 77, 3) := by decide +kernel
theorem dX6_value_27 : decode cX6_value 27 = .ok (.iload_n 3, 1) := by decide +kernel
theorem dX6_value_28 : decode cX6_value 28 = .ok (.invokevirtual 110, 3) := by decide +kernel
theorem dX6_value_31 : decode cX6_value 31 = .ok (.ireturn, 1) := by decide +kernel
theorem dX6_areChanges_0 : decode cX6_areChanges 0 = .ok (.iload_n 0, 1) := by decide +kernel
theorem dX6_areChanges_1 : decode cX6_areChanges 1 = .ok (.istore 4, 2) := by decide +kernel
theorem dX6_areChanges_3 : decode cX6_areChanges 3 = .ok (.iconst 0, 1) := by decide +kernel
theorem dX6_areChanges_4 : decode cX6_areChanges 4 = .ok (.istore 5, 2) := by decide +kernel
theorem dX6_areChanges_6 : decode cX6_areChanges 6 = .ok (.iload 5, 2) := by decide +kernel
theorem dX6_areChanges_8 : decode cX6_areChanges 8 = .ok (.iload_n 1, 1) := by decide +kernel
theorem dX6_areChanges_9 : decode cX6_areChanges 9 = .ok (.if_icmp .ge 53, 3) := by decide +kernel
theorem dX6_areChanges_12 : decode cX6_areChanges 12 = .ok (.iload_n 1, 1) := by decide +kernel
theorem dX6_areChanges_13 : decode cX6_areChanges 13 = .ok (.lload_n 2, 1) := by decide +kernel
theorem dX6_areChanges_14 : decode cX6_areChanges 14 = .ok (.iload 5, 2) := by decide +kernel
theorem dX6_areChanges_16 : decode cX6_areChanges 16 = .ok (.invokestatic 99, 3) := by decide +kernel
theorem dX6_areChanges_19 : decode cX6_areChanges 19 = .ok (.istore 6, 2) := by decide +kernel
theorem dX6_areChanges_21 : decode cX6_areChanges 21 = .ok (.iload 4, 2) := by decide +kernel
theorem dX6_areChanges_23 : decode cX6_areChanges 23 = .ok (.iload 6, 2) := by decide +kernel
theorem dX6_areChanges_25 : decode cX6_areChanges 25 = .ok (.iadd, 1) := by decide +kernel
theorem dX6_areChanges_26 : decode cX6_areChanges 26 = .ok (.istore 4, 2) := by decide +kernel
theorem dX6_areChanges_28 : decode cX6_areChanges 28 = .ok (.iload 6, 2) := by decide +kernel
theorem dX6_areChanges_30 : decode cX6_areChanges 30 = .ok (.ifCond .eq 24, 3) := by decide +kernel
theorem dX6_areChanges_33 : decode cX6_areChanges 33 = .ok (.iload 4, 2) := by decide +kernel
theorem dX6_areChanges_35 : decode cX6_areChanges 35 = .ok (.sipush 4000, 3) := by decide +kernel
theorem dX6_areChanges_38 : decode cX6_areChanges 38 = .ok (.if_icmp .ge 16, 3) := by decide +kernel
theorem dX6_areChanges_41 : decode cX6_areChanges 41 = .ok (.iload_n 1, 1) := by decide +kernel
theorem dX6_areChanges_42 : decode cX6_areChanges 42 = .ok (.lload_n 2, 1) := by decide +kernel
theorem dX6_areChanges_43 : decode cX6_areChanges 43 = .ok (.iload 5, 2) := by decide +kernel
theorem dX6_areChanges_45 : decode cX6_areChanges 45 = .ok (.invokestatic 103, 3) := by decide +kernel
theorem dX6_areChanges_48 : decode cX6_areChanges 48 = .ok (.invokestatic 73, 3) := by decide +kernel
theorem dX6_areChanges_51 : decode cX6_areChanges 51 = .ok (.ifCond .eq 5, 3) := by decide +kernel
theorem dX6_areChanges_54 : decode cX6_areChanges 54 = .ok (.iconst 0, 1) := by decide +kernel
theorem dX6_areChanges_55 : decode cX6_areChanges 55 = .ok (.ireturn, 1) := by decide +kernel
theorem dX6_areChanges_56 : decode cX6_areChanges 56 = .ok (.iinc 5 1, 3) := by decide +kernel
theorem dX6_areChanges_59 : decode cX6_areChanges 59 = .ok (.goto (-53), 3) := by decide +kernel
theorem dX6_areChanges_62 : decode cX6_areChanges 62 = .ok (.iconst 1, 1) := by decide +kernel
theorem dX6_areChanges_63 : decode cX6_areChanges 63 = .ok (.ireturn, 1) := by decide +kernel
theorem dX6_packedTicks_0 : decode cX6_packedTicks 0 = .ok (.iload_n 0, 1) := by decide +kernel
theorem dX6_packedTicks_1 : decode cX6_packedTicks 1 = .ok (.lload_n 1, 1) := by decide +kernel
theorem dX6_packedTicks_2 : decode cX6_packedTicks 2 = .ok (.iload_n 3, 1) := by decide +kernel
theorem dX6_packedTicks_3 : decode cX6_packedTicks 3 = .ok (.invokestatic 113, 3) := by decide +kernel
theorem dX6_packedTicks_6 : decode cX6_packedTicks 6 = .ok (.bipush 9, 2) := by decide +kernel
theorem dX6_packedTicks_8 : decode cX6_packedTicks 8 = .ok (.iushr, 1) := by decide +kernel
theorem dX6_packedTicks_9 : decode cX6_packedTicks 9 = .ok (.ireturn, 1) := by decide +kernel
theorem dX6_packedValue_0 : decode cX6_packedValue 0 = .ok (.iload_n 0, 1) := by decide +kernel
theorem dX6_packedValue_1 : decode cX6_packedValue 1 = .ok (.lload_n 1, 1) := by decide +kernel
theorem dX6_packedValue_2 : decode cX6_packedValue 2 = .ok (.iload_n 3, 1) := by decide +kernel
theorem dX6_packedValue_3 : decode cX6_packedValue 3 = .ok (.invokestatic 113, 3) := by decide +kernel
theorem dX6_packedValue_6 : decode cX6_packedValue 6 = .ok (.sipush 511, 3) := by decide +kernel
theorem dX6_packedValue_9 : decode cX6_packedValue 9 = .ok (.iand, 1) := by decide +kernel
theorem dX6_packedValue_10 : decode cX6_packedValue 10 = .ok (.ireturn, 1) := by decide +kernel
theorem dX6_packed_0 : decode cX6_packed 0 = .ok (.lload_n 1, 1) := by decide +kernel
theorem dX6_packed_1 : decode cX6_packed 1 = .ok (.bipush 16, 2) := by decide +kernel
theorem dX6_packed_3 : decode cX6_packed 3 = .ok (.iload_n 0, 1) := by decide +kernel
theorem dX6_packed_4 : decode cX6_packed 4 = .ok (.iconst 1, 1) := by decide +kernel
theorem dX6_packed_5 : decode cX6_packed 5 = .ok (.isub, 1) := by decide +kernel
theorem dX6_packed_6 : decode cX6_packed 6 = .ok (.iload_n 3, 1) := by decide +kernel
theorem dX6_packed_7 : decode cX6_packed 7 = .ok (.isub, 1) := by decide +kernel
theorem dX6_packed_8 : decode cX6_packed 8 = .ok (.imul, 1) := by decide +kernel
theorem dX6_packed_9 : decode cX6_packed 9 = .ok (.lushr, 1) := by decide +kernel
theorem dX6_packed_10 : decode cX6_packed 10 = .ok (.l2i, 1) := by decide +kernel
theorem dX6_packed_11 : decode cX6_packed 11 = .ok (.ldc 116, 2) := by decide +kernel
theorem dX6_packed_13 : decode cX6_packed 13 = .ok (.iand, 1) := by decide +kernel
theorem dX6_packed_14 : decode cX6_packed 14 = .ok (.ireturn, 1) := by decide +kernel
theorem dX6_rule_0 : decode cX6_rule 0 = .ok (.iload_n 1, 1) := by decide +kernel
theorem dX6_rule_1 : decode cX6_rule 1 = .ok (.ifCond .ne 26, 3) := by decide +kernel
theorem dX6_rule_4 : decode cX6_rule 4 = .ok (.iload_n 2, 1) := by decide +kernel
theorem dX6_rule_5 : decode cX6_rule 5 = .ok (.iconst 1, 1) := by decide +kernel
theorem dX6_rule_6 : decode cX6_rule 6 = .ok (.sipush 4000, 3) := by decide +kernel
theorem dX6_rule_9 : decode cX6_rule 9 = .ok (.invokestatic 69, 3) := by decide +kernel
theorem dX6_rule_12 : decode cX6_rule 12 = .ok (.ifCond .ne 15, 3) := by decide +kernel
theorem dX6_rule_15 : decode cX6_rule 15 = .ok (.aload_n 0, 1) := by decide +kernel
theorem dX6_rule_16 : decode cX6_rule 16 = .ok (.getfield 54, 3) := by decide +kernel
theorem dX6_rule_19 : decode cX6_rule 19 = .ok (.istore_n 3, 1) := by decide +kernel
theorem dX6_rule_20 : decode cX6_rule 20 = .ok (.aload_n 0, 1) := by decide +kernel
theorem dX6_rule_21 : decode cX6_rule 21 = .ok (.iload_n 2, 1) := by decide +kernel
theorem dX6_rule_22 : decode cX6_rule 22 = .ok (.putfield 54, 3) := by decide +kernel
theorem dX6_rule_25 : decode cX6_rule 25 = .ok (.iload_n 3, 1) := by decide +kernel
theorem dX6_rule_26 : decode cX6_rule 26 = .ok (.ireturn, 1) := by decide +kernel
theorem dX6_rule_27 : decode cX6_rule 27 = .ok (.iload_n 1, 1) := by decide +kernel
theorem dX6_rule_28 : decode cX6_rule 28 = .ok (.iconst 1, 1) := by decide +kernel
theorem dX6_rule_29 : decode cX6_rule 29 = .ok (.if_icmp .ne 41, 3) := by decide +kernel
theorem dX6_rule_32 : decode cX6_rule 32 = .ok (.iload_n 2, 1) := by decide +kernel
theorem dX6_rule_33 : decode cX6_rule 33 = .ok (.iconst 0, 1) := by decide +kernel
theorem dX6_rule_34 : decode cX6_rule 34 = .ok (.iconst 1, 1) := by decide +kernel
theorem dX6_rule_35 : decode cX6_rule 35 = .ok (.invokestatic 69, 3) := by decide +kernel
theorem dX6_rule_38 : decode cX6_rule 38 = .ok (.ifCond .ne 32, 3) := by decide +kernel
theorem dX6_rule_41 : decode cX6_rule 41 = .ok (.aload_n 0, 1) := by decide +kernel
theorem dX6_rule_42 : decode cX6_rule 42 = .ok (.getfield 57, 3) := by decide +kernel
theorem dX6_rule_45 : decode cX6_rule 45 = .ok (.ifCond .eq 7, 3) := by decide +kernel
theorem dX6_rule_48 : decode cX6_rule 48 = .ok (.iconst 1, 1) := by decide +kernel
theorem dX6_rule_49 : decode cX6_rule 49 = .ok (.goto 4, 3) := by decide +kernel
theorem dX6_rule_52 : decode cX6_rule 52 = .ok (.iconst 0, 1) := by decide +kernel
theorem dX6_rule_53 : decode cX6_rule 53 = .ok (.istore_n 3, 1) := by decide +kernel
theorem dX6_rule_54 : decode cX6_rule 54 = .ok (.aload_n 0, 1) := by decide +kernel
theorem dX6_rule_55 : decode cX6_rule 55 = .ok (.iload_n 2, 1) := by decide +kernel
theorem dX6_rule_56 : decode cX6_rule 56 = .ok (.iconst 1, 1) := by decide +kernel
theorem dX6_rule_57 : decode cX6_rule 57 = .ok (.if_icmp .ne 7, 3) := by decide +kernel
theorem dX6_rule_60 : decode cX6_rule 60 = .ok (.iconst 1, 1) := by decide +kernel
theorem dX6_rule_61 : decode cX6_rule 61 = .ok (.goto 4, 3) := by decide +kernel
theorem dX6_rule_64 : decode cX6_rule 64 = .ok (.iconst 0, 1) := by decide +kernel
theorem dX6_rule_65 : decode cX6_rule 65 = .ok (.putfield 57, 3) := by decide +kernel
theorem dX6_rule_68 : decode cX6_rule 68 = .ok (.iload_n 3, 1) := by decide +kernel
theorem dX6_rule_69 : decode cX6_rule 69 = .ok (.ireturn, 1) := by decide +kernel
theorem dX6_rule_70 : decode cX6_rule 70 = .ok (.iconst (-1), 1) := by decide +kernel
theorem dX6_rule_71 : decode cX6_rule 71 = .ok (.ireturn, 1) := by decide +kernel
theorem dX6_call_0 : decode cX6_call 0 = .ok (.iload_n 1, 1) := by decide +kernel
theorem dX6_call_1 : decode cX6_call 1 = .ok (.invokestatic 117, 3) := by decide +kernel
theorem dX6_call_4 : decode cX6_call 4 = .ok (.ifCond .eq 5, 3) := by decide +kernel
theorem dX6_call_7 : decode cX6_call 7 = .ok (.iconst (-1), 1) := by decide +kernel
theorem dX6_call_8 : decode cX6_call 8 = .ok (.ireturn, 1) := by decide +kernel
theorem dX6_call_9 : decode cX6_call 9 = .ok (.iload_n 2, 1) := by decide +kernel
theorem dX6_call_10 : decode cX6_call 10 = .ok (.ifCond .ne 28, 3) := by decide +kernel
theorem dX6_call_13 : decode cX6_call 13 = .ok (.iload_n 3, 1) := by decide +kernel
theorem dX6_call_14 : decode cX6_call 14 = .ok (.invokestatic 117, 3) := by decide +kernel
theorem dX6_call_17 : decode cX6_call 17 = .ok (.ifCond .ne 21, 3) := by decide +kernel
theorem dX6_call_20 : decode cX6_call 20 = .ok (.aload_n 0, 1) := by decide +kernel
theorem dX6_call_21 : decode cX6_call 21 = .ok (.getfield 15, 3) := by decide +kernel
theorem dX6_call_24 : decode cX6_call 24 = .ok (.iload_n 1, 1) := by decide +kernel
theorem dX6_call_25 : decode cX6_call 25 = .ok (.iaload, 1) := by decide +kernel
theorem dX6_call_26 : decode cX6_call 26 = .ok (.istore 4, 2) := by decide +kernel
theorem dX6_call_28 : decode cX6_call 28 = .ok (.aload_n 0, 1) := by decide +kernel
theorem dX6_call_29 : decode cX6_call 29 = .ok (.getfield 15, 3) := by decide +kernel
theorem dX6_call_32 : decode cX6_call 32 = .ok (.iload_n 1, 1) := by decide +kernel
theorem dX6_call_33 : decode cX6_call 33 = .ok (.iload_n 3, 1) := by decide +kernel
theorem dX6_call_34 : decode cX6_call 34 = .ok (.iastore, 1) := by decide +kernel
theorem dX6_call_35 : decode cX6_call 35 = .ok (.iload 4, 2) := by decide +kernel
theorem dX6_call_37 : decode cX6_call 37 = .ok (.ireturn, 1) := by decide +kernel
theorem dX6_call_38 : decode cX6_call 38 = .ok (.iload_n 2, 1) := by decide +kernel
theorem dX6_call_39 : decode cX6_call 39 = .ok (.iconst 1, 1) := by decide +kernel
theorem dX6_call_40 : decode cX6_call 40 = .ok (.if_icmp .ne 30, 3) := by decide +kernel
theorem dX6_call_43 : decode cX6_call 43 = .ok (.iload_n 3, 1) := by decide +kernel
theorem dX6_call_44 : decode cX6_call 44 = .ok (.iconst 0, 1) := by decide +kernel
theorem dX6_call_45 : decode cX6_call 45 = .ok (.iconst 3, 1) := by decide +kernel
theorem dX6_call_46 : decode cX6_call 46 = .ok (.invokestatic 69, 3) := by decide +kernel
theorem dX6_call_49 : decode cX6_call 49 = .ok (.ifCond .ne 21, 3) := by decide +kernel
theorem dX6_call_52 : decode cX6_call 52 = .ok (.aload_n 0, 1) := by decide +kernel
theorem dX6_call_53 : decode cX6_call 53 = .ok (.getfield 19, 3) := by decide +kernel
theorem dX6_call_56 : decode cX6_call 56 = .ok (.iload_n 1, 1) := by decide +kernel
theorem dX6_call_57 : decode cX6_call 57 = .ok (.iaload, 1) := by decide +kernel
theorem dX6_call_58 : decode cX6_call 58 = .ok (.istore 4, 2) := by decide +kernel
theorem dX6_call_60 : decode cX6_call 60 = .ok (.aload_n 0, 1) := by decide +kernel
theorem dX6_call_61 : decode cX6_call 61 = .ok (.getfield 19, 3) := by decide +kernel
theorem dX6_call_64 : decode cX6_call 64 = .ok (.iload_n 1, 1) := by decide +kernel
theorem dX6_call_65 : decode cX6_call 65 = .ok (.iload_n 3, 1) := by decide +kernel
theorem dX6_call_66 : decode cX6_call 66 = .ok (.iastore, 1) := by decide +kernel
theorem dX6_call_67 : decode cX6_call 67 = .ok (.iload 4, 2) := by decide +kernel
theorem dX6_call_69 : decode cX6_call 69 = .ok (.ireturn, 1) := by decide +kernel
theorem dX6_call_70 : decode cX6_call 70 = .ok (.iconst (-1), 1) := by decide +kernel
theorem dX6_call_71 : decode cX6_call 71 = .ok (.ireturn, 1) := by decide +kernel
theorem dX6_shift_0 : decode cX6_shift 0 = .ok (.iload_n 1, 1) := by decide +kernel
theorem dX6_shift_1 : decode cX6_shift 1 = .ok (.iconst 0, 1) := by decide +kernel
theorem dX6_shift_2 : decode cX6_shift 2 = .ok (.iconst 3, 1) := by decide +kernel
theorem dX6_shift_3 : decode cX6_shift 3 = .ok (.invokestatic 69, 3) := by decide +kernel
theorem dX6_shift_6 : decode cX6_shift 6 = .ok (.ifCond .ne 14, 3) := by decide +kernel
theorem dX6_shift_9 : decode cX6_shift 9 = .ok (.iload_n 2, 1) := by decide +kernel
theorem dX6_shift_10 : decode cX6_shift 10 = .ok (.bipush (-50), 2) := by decide +kernel
theorem dX6_shift_12 : decode cX6_shift 12 = .ok (.bipush 50, 2) := by decide +kernel
theorem dX6_shift_14 : decode cX6_shift 14 = .ok (.invokestatic 69, 3) := by decide +kernel
theorem dX6_shift_17 : decode cX6_shift 17 = .ok (.ifCond .eq 7, 3) := by decide +kernel
theorem dX6_shift_20 : decode cX6_shift 20 = .ok (.sipush (-1000), 3) := by decide +kernel
theorem dX6_shift_23 : decode cX6_shift 23 = .ok (.ireturn, 1) := by decide +kernel
theorem dX6_shift_24 : decode cX6_shift 24 = .ok (.aload_n 0, 1) := by decide +kernel
theorem dX6_shift_25 : decode cX6_shift 25 = .ok (.getfield 22, 3) := by decide +kernel
theorem dX6_shift_28 : decode cX6_shift 28 = .ok (.iload_n 1, 1) := by decide +kernel
theorem dX6_shift_29 : decode cX6_shift 29 = .ok (.iaload, 1) := by decide +kernel
theorem dX6_shift_30 : decode cX6_shift 30 = .ok (.istore_n 3, 1) := by decide +kernel
theorem dX6_shift_31 : decode cX6_shift 31 = .ok (.aload_n 0, 1) := by decide +kernel
theorem dX6_shift_32 : decode cX6_shift 32 = .ok (.getfield 22, 3) := by decide +kernel
theorem dX6_shift_35 : decode cX6_shift 35 = .ok (.iload_n 1, 1) := by decide +kernel
theorem dX6_shift_36 : decode cX6_shift 36 = .ok (.iload_n 2, 1) := by decide +kernel
theorem dX6_shift_37 : decode cX6_shift 37 = .ok (.iastore, 1) := by decide +kernel
theorem dX6_shift_38 : decode cX6_shift 38 = .ok (.iload_n 3, 1) := by decide +kernel
theorem dX6_shift_39 : decode cX6_shift 39 = .ok (.ireturn, 1) := by decide +kernel
theorem dX6_mask_0 : decode cX6_mask 0 = .ok (.iload_n 1, 1) := by decide +kernel
theorem dX6_mask_1 : decode cX6_mask 1 = .ok (.invokestatic 117, 3) := by decide +kernel
theorem dX6_mask_4 : decode cX6_mask 4 = .ok (.ifCond .ne 19, 3) := by decide +kernel
theorem dX6_mask_7 : decode cX6_mask 7 = .ok (.iload_n 2, 1) := by decide +kernel
theorem dX6_mask_8 : decode cX6_mask 8 = .ok (.ifCond .lt 15, 3) := by decide +kernel
theorem dX6_mask_11 : decode cX6_mask 11 = .ok (.iload_n 2, 1) := by decide +kernel
theorem dX6_mask_12 : decode cX6_mask 12 = .ok (.iload_n 3, 1) := by decide +kernel
theorem dX6_mask_13 : decode cX6_mask 13 = .ok (.if_icmp .ge 10, 3) := by decide +kernel
theorem dX6_mask_16 : decode cX6_mask 16 = .ok (.iload_n 3, 1) := by decide +kernel
theorem dX6_mask_17 : decode cX6_mask 17 = .ok (.sipush 4000, 3) := by decide +kernel
theorem dX6_mask_20 : decode cX6_mask 20 = .ok (.if_icmp .le 5, 3) := by decide +kernel
theorem dX6_mask_23 : decode cX6_mask 23 = .ok (.iconst (-1), 1) := by decide +kernel
theorem dX6_mask_24 : decode cX6_mask 24 = .ok (.ireturn, 1) := by decide +kernel
theorem dX6_mask_25 : decode cX6_mask 25 = .ok (.aload_n 0, 1) := by decide +kernel
theorem dX6_mask_26 : decode cX6_mask 26 = .ok (.getfield 50, 3) := by decide +kernel
theorem dX6_mask_29 : decode cX6_mask 29 = .ok (.bipush 10, 2) := by decide +kernel
theorem dX6_mask_31 : decode cX6_mask 31 = .ok (.if_icmp .lt 6, 3) := by decide +kernel
theorem dX6_mask_34 : decode cX6_mask 34 = .ok (.bipush (-3), 2) := by decide +kernel
theorem dX6_mask_36 : decode cX6_mask 36 = .ok (.ireturn, 1) := by decide +kernel
theorem dX6_mask_37 : decode cX6_mask 37 = .ok (.aload_n 0, 1) := by decide +kernel
theorem dX6_mask_38 : decode cX6_mask 38 = .ok (.getfield 27, 3) := by decide +kernel
theorem dX6_mask_41 : decode cX6_mask 41 = .ok (.aload_n 0, 1) := by decide +kernel
theorem dX6_mask_42 : decode cX6_mask 42 = .ok (.getfield 50, 3) := by decide +kernel
theorem dX6_mask_45 : decode cX6_mask 45 = .ok (.aaload, 1) := by decide +kernel
theorem dX6_mask_46 : decode cX6_mask 46 = .ok (.iload_n 1, 1) := by decide +kernel
theorem dX6_mask_47 : decode cX6_mask 47 = .ok (.iload_n 2, 1) := by decide +kernel
theorem dX6_mask_48 : decode cX6_mask 48 = .ok (.iload_n 3, 1) := by decide +kernel
theorem dX6_mask_49 : decode cX6_mask 49 = .ok (.invokevirtual 120, 3) := by decide +kernel
theorem dX6_mask_52 : decode cX6_mask 52 = .ok (.aload_n 0, 1) := by decide +kernel
theorem dX6_mask_53 : decode cX6_mask 53 = .ok (.dup, 1) := by decide +kernel
theorem dX6_mask_54 : decode cX6_mask 54 = .ok (.getfield 50, 3) := by decide +kernel
theorem dX6_mask_57 : decode cX6_mask 57 = .ok (.iconst 1, 1) := by decide +kernel
theorem dX6_mask_58 : decode cX6_mask 58 = .ok (.iadd, 1) := by decide +kernel
theorem dX6_mask_59 : decode cX6_mask 59 = .ok (.putfield 50, 3) := by decide +kernel
theorem dX6_mask_62 : decode cX6_mask 62 = .ok (.aload_n 0, 1) := by decide +kernel
theorem dX6_mask_63 : decode cX6_mask 63 = .ok (.getfield 50, 3) := by decide +kernel
theorem dX6_mask_66 : decode cX6_mask 66 = .ok (.ireturn, 1) := by decide +kernel
theorem dX6_maskWhile_0 : decode cX6_maskWhile 0 = .ok (.iload_n 1, 1) := by decide +kernel
theorem dX6_maskWhile_1 : decode cX6_maskWhile 1 = .ok (.invokestatic 117, 3) := by decide +kernel
theorem dX6_maskWhile_4 : decode cX6_maskWhile 4 = .ok (.ifCond .ne 17, 3) := by decide +kernel
theorem dX6_maskWhile_7 : decode cX6_maskWhile 7 = .ok (.iload_n 2, 1) := by decide +kernel
theorem dX6_maskWhile_8 : decode cX6_maskWhile 8 = .ok (.invokestatic 117, 3) := by decide +kernel
theorem dX6_maskWhile_11 : decode cX6_maskWhile 11 = .ok (.ifCond .ne 10, 3) := by decide +kernel
theorem dX6_maskWhile_14 : decode cX6_maskWhile 14 = .ok (.iload_n 3, 1) := by decide +kernel
theorem dX6_maskWhile_15 : decode cX6_maskWhile 15 = .ok (.invokestatic 73, 3) := by decide +kernel
theorem dX6_maskWhile_18 : decode cX6_maskWhile 18 = .ok (.ifCond .eq 5, 3) := by decide +kernel
theorem dX6_maskWhile_21 : decode cX6_maskWhile 21 = .ok (.iconst (-1), 1) := by decide +kernel
theorem dX6_maskWhile_22 : decode cX6_maskWhile 22 = .ok (.ireturn, 1) := by decide +kernel
theorem dX6_maskWhile_23 : decode cX6_maskWhile 23 = .ok (.aload_n 0, 1) := by decide +kernel
theorem dX6_maskWhile_24 : decode cX6_maskWhile 24 = .ok (.getfield 50, 3) := by decide +kernel
theorem dX6_maskWhile_27 : decode cX6_maskWhile 27 = .ok (.bipush 10, 2) := by decide +kernel
theorem dX6_maskWhile_29 : decode cX6_maskWhile 29 = .ok (.if_icmp .lt 6, 3) := by decide +kernel
theorem dX6_maskWhile_32 : decode cX6_maskWhile 32 = .ok (.bipush (-3), 2) := by decide +kernel
theorem dX6_maskWhile_34 : decode cX6_maskWhile 34 = .ok (.ireturn, 1) := by decide +kernel
theorem dX6_maskWhile_35 : decode cX6_maskWhile 35 = .ok (.aload_n 0, 1) := by decide +kernel
theorem dX6_maskWhile_36 : decode cX6_maskWhile 36 = .ok (.getfield 27, 3) := by decide +kernel
theorem dX6_maskWhile_39 : decode cX6_maskWhile 39 = .ok (.aload_n 0, 1) := by decide +kernel
theorem dX6_maskWhile_40 : decode cX6_maskWhile 40 = .ok (.getfield 50, 3) := by decide +kernel
theorem dX6_maskWhile_43 : decode cX6_maskWhile 43 = .ok (.aaload, 1) := by decide +kernel
theorem dX6_maskWhile_44 : decode cX6_maskWhile 44 = .ok (.iload_n 1, 1) := by decide +kernel
theorem dX6_maskWhile_45 : decode cX6_maskWhile 45 = .ok (.aload_n 0, 1) := by decide +kernel
theorem dX6_maskWhile_46 : decode cX6_maskWhile 46 = .ok (.iconst 0, 1) := by decide +kernel
theorem dX6_maskWhile_47 : decode cX6_maskWhile 47 = .ok (.iload_n 2, 1) := by decide +kernel
theorem dX6_maskWhile_48 : decode cX6_maskWhile 48 = .ok (.invokevirtual 77, 3) := by decide +kernel
theorem dX6_maskWhile_51 : decode cX6_maskWhile 51 = .ok (.iload_n 3, 1) := by decide +kernel
theorem dX6_maskWhile_52 : decode cX6_maskWhile 52 = .ok (.invokevirtual 124, 3) := by decide +kernel
theorem dX6_maskWhile_55 : decode cX6_maskWhile 55 = .ok (.aload_n 0, 1) := by decide +kernel
theorem dX6_maskWhile_56 : decode cX6_maskWhile 56 = .ok (.dup, 1) := by decide +kernel
theorem dX6_maskWhile_57 : decode cX6_maskWhile 57 = .ok (.getfield 50, 3) := by decide +kernel
theorem dX6_maskWhile_60 : decode cX6_maskWhile 60 = .ok (.iconst 1, 1) := by decide +kernel
theorem dX6_maskWhile_61 : decode cX6_maskWhile 61 = .ok (.iadd, 1) := by decide +kernel
theorem dX6_maskWhile_62 : decode cX6_maskWhile 62 = .ok (.putfield 50, 3) := by decide +kernel
theorem dX6_maskWhile_65 : decode cX6_maskWhile 65 = .ok (.aload_n 0, 1) := by decide +kernel
theorem dX6_maskWhile_66 : decode cX6_maskWhile 66 = .ok (.getfield 50, 3) := by decide +kernel
theorem dX6_maskWhile_69 : decode cX6_maskWhile 69 = .ok (.ireturn, 1) := by decide +kernel
theorem dX6_noMasks_0 : decode cX6_noMasks 0 = .ok (.aload_n 0, 1) := by decide +kernel
theorem dX6_noMasks_1 : decode cX6_noMasks 1 = .ok (.getfield 50, 3) := by decide +kernel
theorem dX6_noMasks_4 : decode cX6_noMasks 4 = .ok (.istore_n 1, 1) := by decide +kernel
theorem dX6_noMasks_5 : decode cX6_noMasks 5 = .ok (.aload_n 0, 1) := by decide +kernel
theorem dX6_noMasks_6 : decode cX6_noMasks 6 = .ok (.iconst 0, 1) := by decide +kernel
theorem dX6_noMasks_7 : decode cX6_noMasks 7 = .ok (.putfield 50, 3) := by decide +kernel
theorem dX6_noMasks_10 : decode cX6_noMasks 10 = .ok (.iload_n 1, 1) := by decide +kernel
theorem dX6_noMasks_11 : decode cX6_noMasks 11 = .ok (.ireturn, 1) := by decide +kernel
theorem dX6_differences_0 : decode cX6_differences 0 = .ok (.iconst 0, 1) := by decide +kernel
theorem dX6_differences_1 : decode cX6_differences 1 = .ok (.istore_n 1, 1) := by decide +kernel
theorem dX6_differences_2 : decode cX6_differences 2 = .ok (.iconst 0, 1) := by decide +kernel
theorem dX6_differences_3 : decode cX6_differences 3 = .ok (.istore_n 2, 1) := by decide +kernel
theorem dX6_differences_4 : decode cX6_differences 4 = .ok (.iload_n 2, 1) := by decide +kernel
theorem dX6_differences_5 : decode cX6_differences 5 = .ok (.bipush 12, 2) := by decide +kernel
theorem dX6_differences_7 : decode cX6_differences 7 = .ok (.if_icmp .ge 40, 3) := by decide +kernel
theorem dX6_differences_10 : decode cX6_differences 10 = .ok (.aload_n 0, 1) := by decide +kernel
theorem dX6_differences_11 : decode cX6_differences 11 = .ok (.iload_n 2, 1) := by decide +kernel
theorem dX6_differences_12 : decode cX6_differences 12 = .ok (.aload_n 0, 1) := by decide +kernel
theorem dX6_differences_13 : decode cX6_differences 13 = .ok (.getfield 22, 3) := by decide +kernel
theorem dX6_differences_16 : decode cX6_differences 16 = .ok (.aload_n 0, 1) := by decide +kernel
theorem dX6_differences_17 : decode cX6_differences 17 = .ok (.getfield 19, 3) := by decide +kernel
theorem dX6_differences_20 : decode cX6_differences 20 = .ok (.iload_n 2, 1) := by decide +kernel
theorem dX6_differences_21 : decode cX6_differences 21 = .ok (.iaload, 1) := by decide +kernel
theorem dX6_differences_22 : decode cX6_differences 22 = .ok (.iaload, 1) := by decide +kernel
theorem dX6_differences_23 : decode cX6_differences 23 = .ok (.invokevirtual 128, 3) := by decide +kernel
theorem dX6_differences_26 : decode cX6_differences 26 = .ok (.iload_n 1, 1) := by decide +kernel
theorem dX6_differences_27 : decode cX6_differences 27 = .ok (.aload_n 0, 1) := by decide +kernel
theorem dX6_differences_28 : decode cX6_differences 28 = .ok (.getfield 46, 3) := by decide +kernel
theorem dX6_differences_31 : decode cX6_differences 31 = .ok (.iconst 1, 1) := by decide +kernel
theorem dX6_differences_32 : decode cX6_differences 32 = .ok (.aload_n 0, 1) := by decide +kernel
theorem dX6_differences_33 : decode cX6_differences 33 = .ok (.getfield 54, 3) := by decide +kernel
theorem dX6_differences_36 : decode cX6_differences 36 = .ok (.invokevirtual 131, 3) := by decide +kernel
theorem dX6_differences_39 : decode cX6_differences 39 = .ok (.iadd, 1) := by decide +kernel
theorem dX6_differences_40 : decode cX6_differences 40 = .ok (.istore_n 1, 1) := by decide +kernel
theorem dX6_differences_41 : decode cX6_differences 41 = .ok (.iinc 2 1, 3) := by decide +kernel
theorem dX6_differences_44 : decode cX6_differences 44 = .ok (.goto (-40), 3) := by decide +kernel
theorem dX6_differences_47 : decode cX6_differences 47 = .ok (.iload_n 1, 1) := by decide +kernel
theorem dX6_differences_48 : decode cX6_differences 48 = .ok (.ireturn, 1) := by decide +kernel
theorem dX6_difference_0 : decode cX6_difference 0 = .ok (.iload_n 1, 1) := by decide +kernel
theorem dX6_difference_1 : decode cX6_difference 1 = .ok (.ifCond .lt 12, 3) := by decide +kernel
theorem dX6_difference_4 : decode cX6_difference 4 = .ok (.iload_n 2, 1) := by decide +kernel
theorem dX6_difference_5 : decode cX6_difference 5 = .ok (.iconst 0, 1) := by decide +kernel
theorem dX6_difference_6 : decode cX6_difference 6 = .ok (.iconst 2, 1) := by decide +kernel
theorem dX6_difference_7 : decode cX6_difference 7 = .ok (.invokestatic 69, 3) := by decide +kernel
theorem dX6_difference_10 : decode cX6_difference 10 = .ok (.ifCond .eq 5, 3) := by decide +kernel
theorem dX6_difference_13 : decode cX6_difference 13 = .ok (.iconst (-1), 1) := by decide +kernel
theorem dX6_difference_14 : decode cX6_difference 14 = .ok (.ireturn, 1) := by decide +kernel
theorem dX6_difference_15 : decode cX6_difference 15 = .ok (.iload_n 1, 1) := by decide +kernel
theorem dX6_difference_16 : decode cX6_difference 16 = .ok (.istore_n 3, 1) := by decide +kernel
theorem dX6_difference_17 : decode cX6_difference 17 = .ok (.iconst 0, 1) := by decide +kernel
theorem dX6_difference_18 : decode cX6_difference 18 = .ok (.istore 4, 2) := by decide +kernel
theorem dX6_difference_20 : decode cX6_difference 20 = .ok (.iload 4, 2) := by decide +kernel
theorem dX6_difference_22 : decode cX6_difference 22 = .ok (.bipush 12, 2) := by decide +kernel
theorem dX6_difference_24 : decode cX6_difference 24 = .ok (.if_icmp .ge 73, 3) := by decide +kernel
theorem dX6_difference_27 : decode cX6_difference 27 = .ok (.aload_n 0, 1) := by decide +kernel
theorem dX6_difference_28 : decode cX6_difference 28 = .ok (.iload 4, 2) := by decide +kernel
theorem dX6_difference_30 : decode cX6_difference 30 = .ok (.aload_n 0, 1) := by decide +kernel
theorem dX6_difference_31 : decode cX6_difference 31 = .ok (.getfield 22, 3) := by decide +kernel
theorem dX6_difference_34 : decode cX6_difference 34 = .ok (.aload_n 0, 1) := by decide +kernel
theorem dX6_difference_35 : decode cX6_difference 35 = .ok (.getfield 19, 3) := by decide +kernel
theorem dX6_difference_38 : decode cX6_difference 38 = .ok (.iload 4, 2) := by decide +kernel
theorem dX6_difference_40 : decode cX6_difference 40 = .ok (.iaload, 1) := by decide +kernel
theorem dX6_difference_41 : decode cX6_difference 41 = .ok (.iaload, 1) := by decide +kernel
theorem dX6_difference_42 : decode cX6_difference 42 = .ok (.invokevirtual 128, 3) := by decide +kernel
theorem dX6_difference_45 : decode cX6_difference 45 = .ok (.aload_n 0, 1) := by decide +kernel
theorem dX6_difference_46 : decode cX6_difference 46 = .ok (.getfield 46, 3) := by decide +kernel
theorem dX6_difference_49 : decode cX6_difference 49 = .ok (.iload_n 3, 1) := by decide +kernel
theorem dX6_difference_50 : decode cX6_difference 50 = .ok (.iconst 1, 1) := by decide +kernel
theorem dX6_difference_51 : decode cX6_difference 51 = .ok (.aload_n 0, 1) := by decide +kernel
theorem dX6_difference_52 : decode cX6_difference 52 = .ok (.getfield 54, 3) := by decide +kernel
theorem dX6_difference_55 : decode cX6_difference 55 = .ok (.invokevirtual 135, 3) := by decide +kernel
theorem dX6_difference_58 : decode cX6_difference 58 = .ok (.ifCond .eq 23, 3) := by decide +kernel
theorem dX6_difference_61 : decode cX6_difference 61 = .ok (.iload_n 2, 1) := by decide +kernel
theorem dX6_difference_62 : decode cX6_difference 62 = .ok (.ifCond .ne 8, 3) := by decide +kernel
theorem dX6_difference_65 : decode cX6_difference 65 = .ok (.iload 4, 2) := by decide +kernel
theorem dX6_difference_67 : decode cX6_difference 67 = .ok (.goto 13, 3) := by decide +kernel
theorem dX6_difference_70 : decode cX6_difference 70 = .ok (.aload_n 0, 1) := by decide +kernel
theorem dX6_difference_71 : decode cX6_difference 71 = .ok (.getfield 46, 3) := by decide +kernel
theorem dX6_difference_74 : decode cX6_difference 74 = .ok (.iload_n 2, 1) := by decide +kernel
theorem dX6_difference_75 : decode cX6_difference 75 = .ok (.iconst 1, 1) := by decide +kernel
theorem dX6_difference_76 : decode cX6_difference 76 = .ok (.isub, 1) := by decide +kernel
theorem dX6_difference_77 : decode cX6_difference 77 = .ok (.invokevirtual 138, 3) := by decide +kernel
theorem dX6_difference_80 : decode cX6_difference 80 = .ok (.ireturn, 1) := by decide +kernel
theorem dX6_difference_81 : decode cX6_difference 81 = .ok (.iload_n 3, 1) := by decide +kernel
theorem dX6_difference_82 : decode cX6_difference 82 = .ok (.aload_n 0, 1) := by decide +kernel
theorem dX6_difference_83 : decode cX6_difference 83 = .ok (.getfield 46, 3) := by decide +kernel
theorem dX6_difference_86 : decode cX6_difference 86 = .ok (.invokevirtual 141, 3) := by decide +kernel
theorem dX6_difference_89 : decode cX6_difference 89 = .ok (.isub, 1) := by decide +kernel
theorem dX6_difference_90 : decode cX6_difference 90 = .ok (.istore_n 3, 1) := by decide +kernel
theorem dX6_difference_91 : decode cX6_difference 91 = .ok (.iinc 4 1, 3) := by decide +kernel
theorem dX6_difference_94 : decode cX6_difference 94 = .ok (.goto (-74), 3) := by decide +kernel
theorem dX6_difference_97 : decode cX6_difference 97 = .ok (.bipush (-4), 2) := by decide +kernel
theorem dX6_difference_99 : decode cX6_difference 99 = .ok (.ireturn, 1) := by decide +kernel
theorem dX6_first_0 : decode cX6_first 0 = .ok (.aload_n 0, 1) := by decide +kernel
theorem dX6_first_1 : decode cX6_first 1 = .ok (.getfield 54, 3) := by decide +kernel
theorem dX6_first_4 : decode cX6_first 4 = .ok (.istore_n 1, 1) := by decide +kernel
theorem dX6_first_5 : decode cX6_first 5 = .ok (.iconst 0, 1) := by decide +kernel
theorem dX6_first_6 : decode cX6_first 6 = .ok (.istore_n 2, 1) := by decide +kernel
theorem dX6_first_7 : decode cX6_first 7 = .ok (.iload_n 2, 1) := by decide +kernel
theorem dX6_first_8 : decode cX6_first 8 = .ok (.bipush 12, 2) := by decide +kernel
theorem dX6_first_10 : decode cX6_first 10 = .ok (.if_icmp .ge 35, 3) := by decide +kernel
theorem dX6_first_13 : decode cX6_first 13 = .ok (.aload_n 0, 1) := by decide +kernel
theorem dX6_first_14 : decode cX6_first 14 = .ok (.iload_n 2, 1) := by decide +kernel
theorem dX6_first_15 : decode cX6_first 15 = .ok (.aload_n 0, 1) := by decide +kernel
theorem dX6_first_16 : decode cX6_first 16 = .ok (.getfield 22, 3) := by decide +kernel
theorem dX6_first_19 : decode cX6_first 19 = .ok (.aload_n 0, 1) := by decide +kernel
theorem dX6_first_20 : decode cX6_first 20 = .ok (.getfield 19, 3) := by decide +kernel
theorem dX6_first_23 : decode cX6_first 23 = .ok (.iload_n 2, 1) := by decide +kernel
theorem dX6_first_24 : decode cX6_first 24 = .ok (.iaload, 1) := by decide +kernel
theorem dX6_first_25 : decode cX6_first 25 = .ok (.iaload, 1) := by decide +kernel
theorem dX6_first_26 : decode cX6_first 26 = .ok (.invokevirtual 128, 3) := by decide +kernel
theorem dX6_first_29 : decode cX6_first 29 = .ok (.aload_n 0, 1) := by decide +kernel
theorem dX6_first_30 : decode cX6_first 30 = .ok (.getfield 46, 3) := by decide +kernel
theorem dX6_first_33 : decode cX6_first 33 = .ok (.iconst 0, 1) := by decide +kernel
theorem dX6_first_34 : decode cX6_first 34 = .ok (.iload_n 1, 1) := by decide +kernel
theorem dX6_first_35 : decode cX6_first 35 = .ok (.invokevirtual 144, 3) := by decide +kernel
theorem dX6_first_38 : decode cX6_first 38 = .ok (.istore_n 1, 1) := by decide +kernel
theorem dX6_first_39 : decode cX6_first 39 = .ok (.iinc 2 1, 3) := by decide +kernel
theorem dX6_first_42 : decode cX6_first 42 = .ok (.goto (-35), 3) := by decide +kernel
theorem dX6_first_45 : decode cX6_first 45 = .ok (.iload_n 1, 1) := by decide +kernel
theorem dX6_first_46 : decode cX6_first 46 = .ok (.aload_n 0, 1) := by decide +kernel
theorem dX6_first_47 : decode cX6_first 47 = .ok (.getfield 54, 3) := by decide +kernel
theorem dX6_first_50 : decode cX6_first 50 = .ok (.if_icmp .ge 7, 3) := by decide +kernel
theorem dX6_first_53 : decode cX6_first 53 = .ok (.iload_n 1, 1) := by decide +kernel
theorem dX6_first_54 : decode cX6_first 54 = .ok (.goto 5, 3) := by decide +kernel
theorem dX6_first_57 : decode cX6_first 57 = .ok (.bipush (-4), 2) := by decide +kernel
theorem dX6_first_59 : decode cX6_first 59 = .ok (.ireturn, 1) := by decide +kernel
theorem dX6_seekDifferences_0 : decode cX6_seekDifferences 0 = .ok (.aload_n 0, 1) := by decide +kernel
theorem dX6_seekDifferences_1 : decode cX6_seekDifferences 1 = .ok (.getfield 46, 3) := by decide +kernel
theorem dX6_seekDifferences_4 : decode cX6_seekDifferences 4 = .ok (.invokevirtual 147, 3) := by decide +kernel
theorem dX6_seekDifferences_7 : decode cX6_seekDifferences 7 = .ok (.aload_n 0, 1) := by decide +kernel
theorem dX6_seekDifferences_8 : decode cX6_seekDifferences 8 = .ok (.getfield 46, 3) := by decide +kernel
theorem dX6_seekDifferences_11 : decode cX6_seekDifferences 11 = .ok (.invokevirtual 150, 3) := by decide +kernel
theorem dX6_seekDifferences_14 : decode cX6_seekDifferences 14 = .ok (.aload_n 0, 1) := by decide +kernel
theorem dX6_seekDifferences_15 : decode cX6_seekDifferences 15 = .ok (.iconst 0, 1) := by decide +kernel
theorem dX6_seekDifferences_16 : decode cX6_seekDifferences 16 = .ok (.iload_n 1, 1) := by decide +kernel
theorem dX6_seekDifferences_17 : decode cX6_seekDifferences 17 = .ok (.invokevirtual 77, 3) := by decide +kernel
theorem dX6_seekDifferences_20 : decode cX6_seekDifferences 20 = .ok (.aload_n 0, 1) := by decide +kernel
theorem dX6_seekDifferences_21 : decode cX6_seekDifferences 21 = .ok (.iconst 1, 1) := by decide +kernel
theorem dX6_seekDifferences_22 : decode cX6_seekDifferences 22 = .ok (.iload_n 1, 1) := by decide +kernel
theorem dX6_seekDifferences_23 : decode cX6_seekDifferences 23 = .ok (.invokevirtual 154, 3) := by decide +kernel
theorem dX6_seekDifferences_26 : decode cX6_seekDifferences 26 = .ok (.iload_n 2, 1) := by decide +kernel
theorem dX6_seekDifferences_27 : decode cX6_seekDifferences 27 = .ok (.aload_n 0, 1) := by decide +kernel
theorem dX6_seekDifferences_28 : decode cX6_seekDifferences 28 = .ok (.getfield 57, 3) := by decide +kernel
theorem dX6_seekDifferences_31 : decode cX6_seekDifferences 31 = .ok (.invokevirtual 157, 3) := by decide +kernel
theorem dX6_seekDifferences_34 : decode cX6_seekDifferences 34 = .ok (.iconst 0, 1) := by decide +kernel
theorem dX6_seekDifferences_35 : decode cX6_seekDifferences 35 = .ok (.istore_n 3, 1) := by decide +kernel
theorem dX6_seekDifferences_36 : decode cX6_seekDifferences 36 = .ok (.iload_n 3, 1) := by decide +kernel
theorem dX6_seekDifferences_37 : decode cX6_seekDifferences 37 = .ok (.aload_n 0, 1) := by decide +kernel
theorem dX6_seekDifferences_38 : decode cX6_seekDifferences 38 = .ok (.getfield 50, 3) := by decide +kernel
theorem dX6_seekDifferences_41 : decode cX6_seekDifferences 41 = .ok (.if_icmp .ge 46, 3) := by decide +kernel
theorem dX6_seekDifferences_44 : decode cX6_seekDifferences 44 = .ok (.aload_n 0, 1) := by decide +kernel
theorem dX6_seekDifferences_45 : decode cX6_seekDifferences 45 = .ok (.getfield 27, 3) := by decide +kernel
theorem dX6_seekDifferences_48 : decode cX6_seekDifferences 48 = .ok (.iload_n 3, 1) := by decide +kernel
theorem dX6_seekDifferences_49 : decode cX6_seekDifferences 49 = .ok (.aaload, 1) := by decide +kernel
theorem dX6_seekDifferences_50 : decode cX6_seekDifferences 50 = .ok (.astore 4, 2) := by decide +kernel
theorem dX6_seekDifferences_52 : decode cX6_seekDifferences 52 = .ok (.aload 4, 2) := by decide +kernel
theorem dX6_seekDifferences_54 : decode cX6_seekDifferences 54 = .ok (.getfield 163, 3) := by decide +kernel
theorem dX6_seekDifferences_57 : decode cX6_seekDifferences 57 = .ok (.iload_n 1, 1) := by decide +kernel
theorem dX6_seekDifferences_58 : decode cX6_seekDifferences 58 = .ok (.if_icmp .ne 23, 3) := by decide +kernel
theorem dX6_seekDifferences_61 : decode cX6_seekDifferences 61 = .ok (.aload_n 0, 1) := by decide +kernel
theorem dX6_seekDifferences_62 : decode cX6_seekDifferences 62 = .ok (.getfield 46, 3) := by decide +kernel
theorem dX6_seekDifferences_65 : decode cX6_seekDifferences 65 = .ok (.invokevirtual 150, 3) := by decide +kernel
theorem dX6_seekDifferences_68 : decode cX6_seekDifferences 68 = .ok (.aload 4, 2) := by decide +kernel
theorem dX6_seekDifferences_70 : decode cX6_seekDifferences 70 = .ok (.getfield 166, 3) := by decide +kernel
theorem dX6_seekDifferences_73 : decode cX6_seekDifferences 73 = .ok (.aload 4, 2) := by decide +kernel
theorem dX6_seekDifferences_75 : decode cX6_seekDifferences 75 = .ok (.getfield 170, 3) := by decide +kernel
theorem dX6_seekDifferences_78 : decode cX6_seekDifferences 78 = .ok (.invokevirtual 173, 3) := by decide +kernel
theorem dX6_seekDifferences_81 : decode cX6_seekDifferences 81 = .ok (.iinc 3 1, 3) := by decide +kernel
theorem dX6_seekDifferences_84 : decode cX6_seekDifferences 84 = .ok (.goto (-48), 3) := by decide +kernel
theorem dX6_seekDifferences_87 : decode cX6_seekDifferences 87 = .ok (.return_, 1) := by decide +kernel
theorem dX6_channel_0 : decode cX6_channel 0 = .ok (.iload_n 1, 1) := by decide +kernel
theorem dX6_channel_1 : decode cX6_channel 1 = .ok (.iconst 0, 1) := by decide +kernel
theorem dX6_channel_2 : decode cX6_channel 2 = .ok (.iconst 3, 1) := by decide +kernel
theorem dX6_channel_3 : decode cX6_channel 3 = .ok (.invokestatic 69, 3) := by decide +kernel
theorem dX6_channel_6 : decode cX6_channel 6 = .ok (.ifCond .ne 33, 3) := by decide +kernel
theorem dX6_channel_9 : decode cX6_channel 9 = .ok (.iload_n 2, 1) := by decide +kernel
theorem dX6_channel_10 : decode cX6_channel 10 = .ok (.invokestatic 117, 3) := by decide +kernel
theorem dX6_channel_13 : decode cX6_channel 13 = .ok (.ifCond .ne 26, 3) := by decide +kernel
theorem dX6_channel_16 : decode cX6_channel 16 = .ok (.iload_n 3, 1) := by decide +kernel
theorem dX6_channel_17 : decode cX6_channel 17 = .ok (.invokestatic 117, 3) := by decide +kernel
theorem dX6_channel_20 : decode cX6_channel 20 = .ok (.ifCond .ne 19, 3) := by decide +kernel
theorem dX6_channel_23 : decode cX6_channel 23 = .ok (.iload 4, 2) := by decide +kernel
theorem dX6_channel_25 : decode cX6_channel 25 = .ok (.invokestatic 117, 3) := by decide +kernel
theorem dX6_channel_28 : decode cX6_channel 28 = .ok (.ifCond .ne 11, 3) := by decide +kernel
theorem dX6_channel_31 : decode cX6_channel 31 = .ok (.iload 5, 2) := by decide +kernel
theorem dX6_channel_33 : decode cX6_channel 33 = .ok (.invokestatic 117, 3) := by decide +kernel
theorem dX6_channel_36 : decode cX6_channel 36 = .ok (.ifCond .eq 5, 3) := by decide +kernel
theorem dX6_channel_39 : decode cX6_channel 39 = .ok (.iconst (-1), 1) := by decide +kernel
theorem dX6_channel_40 : decode cX6_channel 40 = .ok (.ireturn, 1) := by decide +kernel
theorem dX6_channel_41 : decode cX6_channel 41 = .ok (.aload_n 0, 1) := by decide +kernel
theorem dX6_channel_42 : decode cX6_channel 42 = .ok (.getfield 33, 3) := by decide +kernel
theorem dX6_channel_45 : decode cX6_channel 45 = .ok (.iload_n 1, 1) := by decide +kernel
theorem dX6_channel_46 : decode cX6_channel 46 = .ok (.aaload, 1) := by decide +kernel
theorem dX6_channel_47 : decode cX6_channel 47 = .ok (.iload_n 2, 1) := by decide +kernel
theorem dX6_channel_48 : decode cX6_channel 48 = .ok (.iload_n 3, 1) := by decide +kernel
theorem dX6_channel_49 : decode cX6_channel 49 = .ok (.iload 4, 2) := by decide +kernel
theorem dX6_channel_51 : decode cX6_channel 51 = .ok (.iload 5, 2) := by decide +kernel
theorem dX6_channel_53 : decode cX6_channel 53 = .ok (.invokevirtual 177, 3) := by decide +kernel
theorem dX6_channel_56 : decode cX6_channel 56 = .ok (.iconst 0, 1) := by decide +kernel
theorem dX6_channel_57 : decode cX6_channel 57 = .ok (.ireturn, 1) := by decide +kernel
theorem dX6_act_0 : decode cX6_act 0 = .ok (.iload_n 1, 1) := by decide +kernel
theorem dX6_act_1 : decode cX6_act 1 = .ok (.iconst 0, 1) := by decide +kernel
theorem dX6_act_2 : decode cX6_act 2 = .ok (.iconst 3, 1) := by decide +kernel
theorem dX6_act_3 : decode cX6_act 3 = .ok (.invokestatic 69, 3) := by decide +kernel
theorem dX6_act_6 : decode cX6_act 6 = .ok (.ifCond .ne 27, 3) := by decide +kernel
theorem dX6_act_9 : decode cX6_act 9 = .ok (.iload_n 2, 1) := by decide +kernel
theorem dX6_act_10 : decode cX6_act 10 = .ok (.iconst 0, 1) := by decide +kernel
theorem dX6_act_11 : decode cX6_act 11 = .ok (.iconst 1, 1) := by decide +kernel
theorem dX6_act_12 : decode cX6_act 12 = .ok (.invokestatic 69, 3) := by decide +kernel
theorem dX6_act_15 : decode cX6_act 15 = .ok (.ifCond .ne 18, 3) := by decide +kernel
theorem dX6_act_18 : decode cX6_act 18 = .ok (.iload_n 3, 1) := by decide +kernel
theorem dX6_act_19 : decode cX6_act 19 = .ok (.iconst (-1), 1) := by decide +kernel
theorem dX6_act_20 : decode cX6_act 20 = .ok (.if_icmp .lt 13, 3) := by decide +kernel
theorem dX6_act_23 : decode cX6_act 23 = .ok (.iload 4, 2) := by decide +kernel
theorem dX6_act_25 : decode cX6_act 25 = .ok (.iconst 0, 1) := by decide +kernel
theorem dX6_act_26 : decode cX6_act 26 = .ok (.iconst 1, 1) := by decide +kernel
theorem dX6_act_27 : decode cX6_act 27 = .ok (.invokestatic 69, 3) := by decide +kernel
theorem dX6_act_30 : decode cX6_act 30 = .ok (.ifCond .eq 5, 3) := by decide +kernel
theorem dX6_act_33 : decode cX6_act 33 = .ok (.iconst (-1), 1) := by decide +kernel
theorem dX6_act_34 : decode cX6_act 34 = .ok (.ireturn, 1) := by decide +kernel
theorem dX6_act_35 : decode cX6_act 35 = .ok (.aload_n 0, 1) := by decide +kernel
theorem dX6_act_36 : decode cX6_act 36 = .ok (.getfield 33, 3) := by decide +kernel
theorem dX6_act_39 : decode cX6_act 39 = .ok (.iload_n 1, 1) := by decide +kernel
theorem dX6_act_40 : decode cX6_act 40 = .ok (.aaload, 1) := by decide +kernel
theorem dX6_act_41 : decode cX6_act 41 = .ok (.astore 5, 2) := by decide +kernel
theorem dX6_act_43 : decode cX6_act 43 = .ok (.aload 5, 2) := by decide +kernel
theorem dX6_act_45 : decode cX6_act 45 = .ok (.getfield 181, 3) := by decide +kernel
theorem dX6_act_48 : decode cX6_act 48 = .ok (.ifCond .ne 6, 3) := by decide +kernel
theorem dX6_act_51 : decode cX6_act 51 = .ok (.bipush (-2), 2) := by decide +kernel
theorem dX6_act_53 : decode cX6_act 53 = .ok (.ireturn, 1) := by decide +kernel
theorem dX6_act_54 : decode cX6_act 54 = .ok (.iconst 0, 1) := by decide +kernel
theorem dX6_act_55 : decode cX6_act 55 = .ok (.istore 6, 2) := by decide +kernel
theorem dX6_act_57 : decode cX6_act 57 = .ok (.aload_n 0, 1) := by decide +kernel
theorem dX6_act_58 : decode cX6_act 58 = .ok (.aload 5, 2) := by decide +kernel
theorem dX6_act_60 : decode cX6_act 60 = .ok (.iload_n 2, 1) := by decide +kernel
theorem dX6_act_61 : decode cX6_act 61 = .ok (.iconst 0, 1) := by decide +kernel
theorem dX6_act_62 : decode cX6_act 62 = .ok (.invokevirtual 184, 3) := by decide +kernel
theorem dX6_act_65 : decode cX6_act 65 = .ok (.istore 7, 2) := by decide +kernel
theorem dX6_act_67 : decode cX6_act 67 = .ok (.iconst 0, 1) := by decide +kernel
theorem dX6_act_68 : decode cX6_act 68 = .ok (.istore 8, 2) := by decide +kernel
theorem dX6_act_70 : decode cX6_act 70 = .ok (.iload 8, 2) := by decide +kernel
theorem dX6_act_72 : decode cX6_act 72 = .ok (.sipush 4000, 3) := by decide +kernel
theorem dX6_act_75 : decode cX6_act 75 = .ok (.if_icmp .ge 56, 3) := by decide +kernel
theorem dX6_act_78 : decode cX6_act 78 = .ok (.iload 7, 2) := by decide +kernel
theorem dX6_act_80 : decode cX6_act 80 = .ok (.bipush (-4), 2) := by decide +kernel
theorem dX6_act_82 : decode cX6_act 82 = .ok (.if_icmp .eq 49, 3) := by decide +kernel
theorem dX6_act_85 : decode cX6_act 85 = .ok (.iload 6, 2) := by decide +kernel
theorem dX6_act_87 : decode cX6_act 87 = .ok (.iload_n 3, 1) := by decide +kernel
theorem dX6_act_88 : decode cX6_act 88 = .ok (.if_icmp .ne 23, 3) := by decide +kernel
theorem dX6_act_91 : decode cX6_act 91 = .ok (.iload 4, 2) := by decide +kernel
theorem dX6_act_93 : decode cX6_act 93 = .ok (.ifCond .ne 8, 3) := by decide +kernel
theorem dX6_act_96 : decode cX6_act 96 = .ok (.iload 7, 2) := by decide +kernel
theorem dX6_act_98 : decode cX6_act 98 = .ok (.goto 12, 3) := by decide +kernel
theorem dX6_act_101 : decode cX6_act 101 = .ok (.aload_n 0, 1) := by decide +kernel
theorem dX6_act_102 : decode cX6_act 102 = .ok (.aload 5, 2) := by decide +kernel
theorem dX6_act_104 : decode cX6_act 104 = .ok (.iload_n 2, 1) := by decide +kernel
theorem dX6_act_105 : decode cX6_act 105 = .ok (.iload 7, 2) := by decide +kernel
theorem dX6_act_107 : decode cX6_act 107 = .ok (.invokevirtual 188, 3) := by decide +kernel
theorem dX6_act_110 : decode cX6_act 110 = .ok (.ireturn, 1) := by decide +kernel
theorem dX6_act_111 : decode cX6_act 111 = .ok (.iinc 6 1, 3) := by decide +kernel
theorem dX6_act_114 : decode cX6_act 114 = .ok (.aload_n 0, 1) := by decide +kernel
theorem dX6_act_115 : decode cX6_act 115 = .ok (.aload 5, 2) := by decide +kernel
theorem dX6_act_117 : decode cX6_act 117 = .ok (.iload_n 2, 1) := by decide +kernel
theorem dX6_act_118 : decode cX6_act 118 = .ok (.iload 7, 2) := by decide +kernel
theorem dX6_act_120 : decode cX6_act 120 = .ok (.invokevirtual 184, 3) := by decide +kernel
theorem dX6_act_123 : decode cX6_act 123 = .ok (.istore 7, 2) := by decide +kernel
theorem dX6_act_125 : decode cX6_act 125 = .ok (.iinc 8 1, 3) := by decide +kernel
theorem dX6_act_128 : decode cX6_act 128 = .ok (.goto (-58), 3) := by decide +kernel
theorem dX6_act_131 : decode cX6_act 131 = .ok (.iload_n 3, 1) := by decide +kernel
theorem dX6_act_132 : decode cX6_act 132 = .ok (.iconst (-1), 1) := by decide +kernel
theorem dX6_act_133 : decode cX6_act 133 = .ok (.if_icmp .ne 8, 3) := by decide +kernel
theorem dX6_act_136 : decode cX6_act 136 = .ok (.iload 6, 2) := by decide +kernel
theorem dX6_act_138 : decode cX6_act 138 = .ok (.goto 5, 3) := by decide +kernel
theorem dX6_act_141 : decode cX6_act 141 = .ok (.bipush (-4), 2) := by decide +kernel
theorem dX6_act_143 : decode cX6_act 143 = .ok (.ireturn, 1) := by decide +kernel
theorem dX6_unlike_0 : decode cX6_unlike 0 = .ok (.iload_n 1, 1) := by decide +kernel
theorem dX6_unlike_1 : decode cX6_unlike 1 = .ok (.iconst 0, 1) := by decide +kernel
theorem dX6_unlike_2 : decode cX6_unlike 2 = .ok (.iconst 3, 1) := by decide +kernel
theorem dX6_unlike_3 : decode cX6_unlike 3 = .ok (.invokestatic 69, 3) := by decide +kernel
theorem dX6_unlike_6 : decode cX6_unlike 6 = .ok (.ifCond .eq 5, 3) := by decide +kernel
theorem dX6_unlike_9 : decode cX6_unlike 9 = .ok (.iconst (-1), 1) := by decide +kernel
theorem dX6_unlike_10 : decode cX6_unlike 10 = .ok (.ireturn, 1) := by decide +kernel
theorem dX6_unlike_11 : decode cX6_unlike 11 = .ok (.aload_n 0, 1) := by decide +kernel
theorem dX6_unlike_12 : decode cX6_unlike 12 = .ok (.getfield 33, 3) := by decide +kernel
theorem dX6_unlike_15 : decode cX6_unlike 15 = .ok (.iload_n 1, 1) := by decide +kernel
theorem dX6_unlike_16 : decode cX6_unlike 16 = .ok (.aaload, 1) := by decide +kernel
theorem dX6_unlike_17 : decode cX6_unlike 17 = .ok (.astore_n 2, 1) := by decide +kernel
theorem dX6_unlike_18 : decode cX6_unlike 18 = .ok (.aload_n 2, 1) := by decide +kernel
theorem dX6_unlike_19 : decode cX6_unlike 19 = .ok (.getfield 181, 3) := by decide +kernel
theorem dX6_unlike_22 : decode cX6_unlike 22 = .ok (.ifCond .ne 6, 3) := by decide +kernel
theorem dX6_unlike_25 : decode cX6_unlike 25 = .ok (.bipush (-2), 2) := by decide +kernel
theorem dX6_unlike_27 : decode cX6_unlike 27 = .ok (.ireturn, 1) := by decide +kernel
theorem dX6_unlike_28 : decode cX6_unlike 28 = .ok (.aload_n 0, 1) := by decide +kernel
theorem dX6_unlike_29 : decode cX6_unlike 29 = .ok (.aload_n 2, 1) := by decide +kernel
theorem dX6_unlike_30 : decode cX6_unlike 30 = .ok (.iconst 0, 1) := by decide +kernel
theorem dX6_unlike_31 : decode cX6_unlike 31 = .ok (.iconst 0, 1) := by decide +kernel
theorem dX6_unlike_32 : decode cX6_unlike 32 = .ok (.invokevirtual 184, 3) := by decide +kernel
theorem dX6_unlike_35 : decode cX6_unlike 35 = .ok (.istore_n 3, 1) := by decide +kernel
theorem dX6_unlike_36 : decode cX6_unlike 36 = .ok (.aload_n 0, 1) := by decide +kernel
theorem dX6_unlike_37 : decode cX6_unlike 37 = .ok (.aload_n 2, 1) := by decide +kernel
theorem dX6_unlike_38 : decode cX6_unlike 38 = .ok (.iconst 1, 1) := by decide +kernel
theorem dX6_unlike_39 : decode cX6_unlike 39 = .ok (.iconst 0, 1) := by decide +kernel
theorem dX6_unlike_40 : decode cX6_unlike 40 = .ok (.invokevirtual 184, 3) := by decide +kernel
theorem dX6_unlike_43 : decode cX6_unlike 43 = .ok (.istore 4, 2) := by decide +kernel
theorem dX6_unlike_45 : decode cX6_unlike 45 = .ok (.iconst 0, 1) := by decide +kernel
theorem dX6_unlike_46 : decode cX6_unlike 46 = .ok (.istore 5, 2) := by decide +kernel
theorem dX6_unlike_48 : decode cX6_unlike 48 = .ok (.iload 5, 2) := by decide +kernel
theorem dX6_unlike_50 : decode cX6_unlike 50 = .ok (.sipush 4000, 3) := by decide +kernel
theorem dX6_unlike_53 : decode cX6_unlike 53 = .ok (.if_icmp .ge 81, 3) := by decide +kernel
theorem dX6_unlike_56 : decode cX6_unlike 56 = .ok (.iload_n 3, 1) := by decide +kernel
theorem dX6_unlike_57 : decode cX6_unlike 57 = .ok (.bipush (-4), 2) := by decide +kernel
theorem dX6_unlike_59 : decode cX6_unlike 59 = .ok (.if_icmp .ne 10, 3) := by decide +kernel
theorem dX6_unlike_62 : decode cX6_unlike 62 = .ok (.iload 4, 2) := by decide +kernel
theorem dX6_unlike_64 : decode cX6_unlike 64 = .ok (.bipush (-4), 2) := by decide +kernel
theorem dX6_unlike_66 : decode cX6_unlike 66 = .ok (.if_icmp .eq 68, 3) := by decide +kernel
theorem dX6_unlike_69 : decode cX6_unlike 69 = .ok (.iload_n 3, 1) := by decide +kernel
theorem dX6_unlike_70 : decode cX6_unlike 70 = .ok (.bipush (-4), 2) := by decide +kernel
theorem dX6_unlike_72 : decode cX6_unlike 72 = .ok (.if_icmp .eq 35, 3) := by decide +kernel
theorem dX6_unlike_75 : decode cX6_unlike 75 = .ok (.iload 4, 2) := by decide +kernel
theorem dX6_unlike_77 : decode cX6_unlike 77 = .ok (.bipush (-4), 2) := by decide +kernel
theorem dX6_unlike_79 : decode cX6_unlike 79 = .ok (.if_icmp .eq 28, 3) := by decide +kernel
theorem dX6_unlike_82 : decode cX6_unlike 82 = .ok (.aload_n 0, 1) := by decide +kernel
theorem dX6_unlike_83 : decode cX6_unlike 83 = .ok (.aload_n 2, 1) := by decide +kernel
theorem dX6_unlike_84 : decode cX6_unlike 84 = .ok (.iconst 0, 1) := by decide +kernel
theorem dX6_unlike_85 : decode cX6_unlike 85 = .ok (.iload_n 3, 1) := by decide +kernel
theorem dX6_unlike_86 : decode cX6_unlike 86 = .ok (.invokevirtual 188, 3) := by decide +kernel
theorem dX6_unlike_89 : decode cX6_unlike 89 = .ok (.aload_n 0, 1) := by decide +kernel
theorem dX6_unlike_90 : decode cX6_unlike 90 = .ok (.aload_n 2, 1) := by decide +kernel
theorem dX6_unlike_91 : decode cX6_unlike 91 = .ok (.iconst 1, 1) := by decide +kernel
theorem dX6_unlike_92 : decode cX6_unlike 92 = .ok (.iload 4, 2) := by decide +kernel
theorem dX6_unlike_94 : decode cX6_unlike 94 = .ok (.invokevirtual 188, 3) := by decide +kernel
theorem dX6_unlike_97 : decode cX6_unlike 97 = .ok (.aload_n 0, 1) := by decide +kernel
theorem dX6_unlike_98 : decode cX6_unlike 98 = .ok (.getfield 57, 3) := by decide +kernel
theorem dX6_unlike_101 : decode cX6_unlike 101 = .ok (.invokestatic 191, 3) := by decide +kernel
theorem dX6_unlike_104 : decode cX6_unlike 104 = .ok (.ifCond .ne 6, 3) := by decide +kernel
theorem dX6_unlike_107 : decode cX6_unlike 107 = .ok (.iload 5, 2) := by decide +kernel
theorem dX6_unlike_109 : decode cX6_unlike 109 = .ok (.ireturn, 1) := by decide +kernel
theorem dX6_unlike_110 : decode cX6_unlike 110 = .ok (.aload_n 0, 1) := by decide +kernel
theorem dX6_unlike_111 : decode cX6_unlike 111 = .ok (.aload_n 2, 1) := by decide +kernel
theorem dX6_unlike_112 : decode cX6_unlike 112 = .ok (.iconst 0, 1) := by decide +kernel
theorem dX6_unlike_113 : decode cX6_unlike 113 = .ok (.iload_n 3, 1) := by decide +kernel
theorem dX6_unlike_114 : decode cX6_unlike 114 = .ok (.invokevirtual 184, 3) := by decide +kernel
theorem dX6_unlike_117 : decode cX6_unlike 117 = .ok (.istore_n 3, 1) := by decide +kernel
theorem dX6_unlike_118 : decode cX6_unlike 118 = .ok (.aload_n 0, 1) := by decide +kernel
theorem dX6_unlike_119 : decode cX6_unlike 119 = .ok (.aload_n 2, 1) := by decide +kernel
theorem dX6_unlike_120 : decode cX6_unlike 120 = .ok (.iconst 1, 1) := by decide +kernel
theorem dX6_unlike_121 : decode cX6_unlike 121 = .ok (.iload 4, 2) := by decide +kernel
theorem dX6_unlike_123 : decode cX6_unlike 123 = .ok (.invokevirtual 184, 3) := by decide +kernel
theorem dX6_unlike_126 : decode cX6_unlike 126 = .ok (.istore 4, 2) := by decide +kernel
theorem dX6_unlike_128 : decode cX6_unlike 128 = .ok (.iinc 5 1, 3) := by decide +kernel
theorem dX6_unlike_131 : decode cX6_unlike 131 = .ok (.goto (-83), 3) := by decide +kernel
theorem dX6_unlike_134 : decode cX6_unlike 134 = .ok (.bipush (-4), 2) := by decide +kernel
theorem dX6_unlike_136 : decode cX6_unlike 136 = .ok (.ireturn, 1) := by decide +kernel
theorem dX6_nextAct_0 : decode cX6_nextAct 0 = .ok (.aload_n 0, 1) := by decide +kernel
theorem dX6_nextAct_1 : decode cX6_nextAct 1 = .ok (.iload_n 2, 1) := by decide +kernel
theorem dX6_nextAct_2 : decode cX6_nextAct 2 = .ok (.aload_n 1, 1) := by decide +kernel
theorem dX6_nextAct_3 : decode cX6_nextAct 3 = .ok (.getfield 195, 3) := by decide +kernel
theorem dX6_nextAct_6 : decode cX6_nextAct 6 = .ok (.invokevirtual 154, 3) := by decide +kernel
theorem dX6_nextAct_9 : decode cX6_nextAct 9 = .ok (.astore 4, 2) := by decide +kernel
theorem dX6_nextAct_11 : decode cX6_nextAct 11 = .ok (.aload 4, 2) := by decide +kernel
theorem dX6_nextAct_13 : decode cX6_nextAct 13 = .ok (.iload_n 3, 1) := by decide +kernel
theorem dX6_nextAct_14 : decode cX6_nextAct 14 = .ok (.aload_n 0, 1) := by decide +kernel
theorem dX6_nextAct_15 : decode cX6_nextAct 15 = .ok (.getfield 54, 3) := by decide +kernel
theorem dX6_nextAct_18 : decode cX6_nextAct 18 = .ok (.invokevirtual 198, 3) := by decide +kernel
theorem dX6_nextAct_21 : decode cX6_nextAct 21 = .ok (.istore 5, 2) := by decide +kernel
theorem dX6_nextAct_23 : decode cX6_nextAct 23 = .ok (.iconst 0, 1) := by decide +kernel
theorem dX6_nextAct_24 : decode cX6_nextAct 24 = .ok (.istore 6, 2) := by decide +kernel
theorem dX6_nextAct_26 : decode cX6_nextAct 26 = .ok (.iload 6, 2) := by decide +kernel
theorem dX6_nextAct_28 : decode cX6_nextAct 28 = .ok (.sipush 4000, 3) := by decide +kernel
theorem dX6_nextAct_31 : decode cX6_nextAct 31 = .ok (.if_icmp .ge 60, 3) := by decide +kernel
theorem dX6_nextAct_34 : decode cX6_nextAct 34 = .ok (.iload 5, 2) := by decide +kernel
theorem dX6_nextAct_36 : decode cX6_nextAct 36 = .ok (.bipush (-4), 2) := by decide +kernel
theorem dX6_nextAct_38 : decode cX6_nextAct 38 = .ok (.if_icmp .eq 53, 3) := by decide +kernel
theorem dX6_nextAct_41 : decode cX6_nextAct 41 = .ok (.aload_n 0, 1) := by decide +kernel
theorem dX6_nextAct_42 : decode cX6_nextAct 42 = .ok (.iload_n 2, 1) := by decide +kernel
theorem dX6_nextAct_43 : decode cX6_nextAct 43 = .ok (.aload_n 1, 1) := by decide +kernel
theorem dX6_nextAct_44 : decode cX6_nextAct 44 = .ok (.getfield 201, 3) := by decide +kernel
theorem dX6_nextAct_47 : decode cX6_nextAct 47 = .ok (.iload 5, 2) := by decide +kernel
theorem dX6_nextAct_49 : decode cX6_nextAct 49 = .ok (.invokevirtual 204, 3) := by decide +kernel
theorem dX6_nextAct_52 : decode cX6_nextAct 52 = .ok (.ifCond .eq 20, 3) := by decide +kernel
theorem dX6_nextAct_55 : decode cX6_nextAct 55 = .ok (.aload_n 0, 1) := by decide +kernel
theorem dX6_nextAct_56 : decode cX6_nextAct 56 = .ok (.iload_n 2, 1) := by decide +kernel
theorem dX6_nextAct_57 : decode cX6_nextAct 57 = .ok (.aload_n 1, 1) := by decide +kernel
theorem dX6_nextAct_58 : decode cX6_nextAct 58 = .ok (.getfield 207, 3) := by decide +kernel
theorem dX6_nextAct_61 : decode cX6_nextAct 61 = .ok (.iload 5, 2) := by decide +kernel
theorem dX6_nextAct_63 : decode cX6_nextAct 63 = .ok (.invokevirtual 204, 3) := by decide +kernel
theorem dX6_nextAct_66 : decode cX6_nextAct 66 = .ok (.ifCond .eq 6, 3) := by decide +kernel
theorem dX6_nextAct_69 : decode cX6_nextAct 69 = .ok (.iload 5, 2) := by decide +kernel
theorem dX6_nextAct_71 : decode cX6_nextAct 71 = .ok (.ireturn, 1) := by decide +kernel
theorem dX6_nextAct_72 : decode cX6_nextAct 72 = .ok (.aload 4, 2) := by decide +kernel
theorem dX6_nextAct_74 : decode cX6_nextAct 74 = .ok (.iload 5, 2) := by decide +kernel
theorem dX6_nextAct_76 : decode cX6_nextAct 76 = .ok (.aload_n 0, 1) := by decide +kernel
theorem dX6_nextAct_77 : decode cX6_nextAct 77 = .ok (.getfield 54, 3) := by decide +kernel
theorem dX6_nextAct_80 : decode cX6_nextAct 80 = .ok (.invokevirtual 198, 3) := by decide +kernel
theorem dX6_nextAct_83 : decode cX6_nextAct 83 = .ok (.istore 5, 2) := by decide +kernel
theorem dX6_nextAct_85 : decode cX6_nextAct 85 = .ok (.iinc 6 1, 3) := by decide +kernel
theorem dX6_nextAct_88 : decode cX6_nextAct 88 = .ok (.goto (-62), 3) := by decide +kernel
theorem dX6_nextAct_91 : decode cX6_nextAct 91 = .ok (.bipush (-4), 2) := by decide +kernel
theorem dX6_nextAct_93 : decode cX6_nextAct 93 = .ok (.ireturn, 1) := by decide +kernel
theorem dX6_hadOneAhead_0 : decode cX6_hadOneAhead 0 = .ok (.aload_n 0, 1) := by decide +kernel
theorem dX6_hadOneAhead_1 : decode cX6_hadOneAhead 1 = .ok (.iload_n 1, 1) := by decide +kernel
theorem dX6_hadOneAhead_2 : decode cX6_hadOneAhead 2 = .ok (.iload_n 2, 1) := by decide +kernel
theorem dX6_hadOneAhead_3 : decode cX6_hadOneAhead 3 = .ok (.invokevirtual 154, 3) := by decide +kernel
theorem dX6_hadOneAhead_6 : decode cX6_hadOneAhead 6 = .ok (.iload_n 3, 1) := by decide +kernel
theorem dX6_hadOneAhead_7 : decode cX6_hadOneAhead 7 = .ok (.iconst 1, 1) := by decide +kernel
theorem dX6_hadOneAhead_8 : decode cX6_hadOneAhead 8 = .ok (.isub, 1) := by decide +kernel
theorem dX6_hadOneAhead_9 : decode cX6_hadOneAhead 9 = .ok (.invokevirtual 110, 3) := by decide +kernel
theorem dX6_hadOneAhead_12 : decode cX6_hadOneAhead 12 = .ok (.iconst 1, 1) := by decide +kernel
theorem dX6_hadOneAhead_13 : decode cX6_hadOneAhead 13 = .ok (.if_icmp .ne 7, 3) := by decide +kernel
theorem dX6_hadOneAhead_16 : decode cX6_hadOneAhead 16 = .ok (.iconst 1, 1) := by decide +kernel
theorem dX6_hadOneAhead_17 : decode cX6_hadOneAhead 17 = .ok (.goto 4, 3) := by decide +kernel
theorem dX6_hadOneAhead_20 : decode cX6_hadOneAhead 20 = .ok (.iconst 0, 1) := by decide +kernel
theorem dX6_hadOneAhead_21 : decode cX6_hadOneAhead 21 = .ok (.ireturn, 1) := by decide +kernel
theorem dX6_dataAhead_0 : decode cX6_dataAhead 0 = .ok (.aload_n 0, 1) := by decide +kernel
theorem dX6_dataAhead_1 : decode cX6_dataAhead 1 = .ok (.iload_n 2, 1) := by decide +kernel
theorem dX6_dataAhead_2 : decode cX6_dataAhead 2 = .ok (.aload_n 1, 1) := by decide +kernel
theorem dX6_dataAhead_3 : decode cX6_dataAhead 3 = .ok (.getfield 210, 3) := by decide +kernel
theorem dX6_dataAhead_6 : decode cX6_dataAhead 6 = .ok (.invokevirtual 154, 3) := by decide +kernel
theorem dX6_dataAhead_9 : decode cX6_dataAhead 9 = .ok (.iload_n 3, 1) := by decide +kernel
theorem dX6_dataAhead_10 : decode cX6_dataAhead 10 = .ok (.iconst 1, 1) := by decide +kernel
theorem dX6_dataAhead_11 : decode cX6_dataAhead 11 = .ok (.isub, 1) := by decide +kernel
theorem dX6_dataAhead_12 : decode cX6_dataAhead 12 = .ok (.invokevirtual 110, 3) := by decide +kernel
theorem dX6_dataAhead_15 : decode cX6_dataAhead 15 = .ok (.ireturn, 1) := by decide +kernel
theorem dX6_fit_0 : decode cX6_fit 0 = .ok (.iload_n 1, 1) := by decide +kernel
theorem dX6_fit_1 : decode cX6_fit 1 = .ok (.iconst 0, 1) := by decide +kernel
theorem dX6_fit_2 : decode cX6_fit 2 = .ok (.iconst 3, 1) := by decide +kernel
theorem dX6_fit_3 : decode cX6_fit 3 = .ok (.invokestatic 69, 3) := by decide +kernel
theorem dX6_fit_6 : decode cX6_fit 6 = .ok (.ifCond .eq 7, 3) := by decide +kernel
theorem dX6_fit_9 : decode cX6_fit 9 = .ok (.sipush (-1001), 3) := by decide +kernel
theorem dX6_fit_12 : decode cX6_fit 12 = .ok (.ireturn, 1) := by decide +kernel
theorem dX6_fit_13 : decode cX6_fit 13 = .ok (.aload_n 0, 1) := by decide +kernel
theorem dX6_fit_14 : decode cX6_fit 14 = .ok (.iload_n 1, 1) := by decide +kernel
theorem dX6_fit_15 : decode cX6_fit 15 = .ok (.invokevirtual 213, 3) := by decide +kernel
theorem dX6_fit_18 : decode cX6_fit 18 = .ok (.ifCond .ne 7, 3) := by decide +kernel
theorem dX6_fit_21 : decode cX6_fit 21 = .ok (.sipush (-1002), 3) := by decide +kernel
theorem dX6_fit_24 : decode cX6_fit 24 = .ok (.ireturn, 1) := by decide +kernel
theorem dX6_fit_25 : decode cX6_fit 25 = .ok (.iconst 0, 1) := by decide +kernel
theorem dX6_fit_26 : decode cX6_fit 26 = .ok (.istore_n 2, 1) := by decide +kernel
theorem dX6_fit_27 : decode cX6_fit 27 = .ok (.iload_n 2, 1) := by decide +kernel
theorem dX6_fit_28 : decode cX6_fit 28 = .ok (.bipush 50, 2) := by decide +kernel
theorem dX6_fit_30 : decode cX6_fit 30 = .ok (.if_icmp .gt 33, 3) := by decide +kernel
theorem dX6_fit_33 : decode cX6_fit 33 = .ok (.aload_n 0, 1) := by decide +kernel
theorem dX6_fit_34 : decode cX6_fit 34 = .ok (.iload_n 1, 1) := by decide +kernel
theorem dX6_fit_35 : decode cX6_fit 35 = .ok (.iload_n 2, 1) := by decide +kernel
theorem dX6_fit_36 : decode cX6_fit 36 = .ok (.ineg, 1) := by decide +kernel
theorem dX6_fit_37 : decode cX6_fit 37 = .ok (.invokevirtual 216, 3) := by decide +kernel
theorem dX6_fit_40 : decode cX6_fit 40 = .ok (.ifCond .eq 6, 3) := by decide +kernel
theorem dX6_fit_43 : decode cX6_fit 43 = .ok (.iload_n 2, 1) := by decide +kernel
theorem dX6_fit_44 : decode cX6_fit 44 = .ok (.ineg, 1) := by decide +kernel
theorem dX6_fit_45 : decode cX6_fit 45 = .ok (.ireturn, 1) := by decide +kernel
theorem dX6_fit_46 : decode cX6_fit 46 = .ok (.aload_n 0, 1) := by decide +kernel
theorem dX6_fit_47 : decode cX6_fit 47 = .ok (.iload_n 1, 1) := by decide +kernel
theorem dX6_fit_48 : decode cX6_fit 48 = .ok (.iload_n 2, 1) := by decide +kernel
theorem dX6_fit_49 : decode cX6_fit 49 = .ok (.invokevirtual 216, 3) := by decide +kernel
theorem dX6_fit_52 : decode cX6_fit 52 = .ok (.ifCond .eq 5, 3) := by decide +kernel
theorem dX6_fit_55 : decode cX6_fit 55 = .ok (.iload_n 2, 1) := by decide +kernel
theorem dX6_fit_56 : decode cX6_fit 56 = .ok (.ireturn, 1) := by decide +kernel
theorem dX6_fit_57 : decode cX6_fit 57 = .ok (.iinc 2 1, 3) := by decide +kernel
theorem dX6_fit_60 : decode cX6_fit 60 = .ok (.goto (-33), 3) := by decide +kernel
theorem dX6_fit_63 : decode cX6_fit 63 = .ok (.sipush (-1004), 3) := by decide +kernel
theorem dX6_fit_66 : decode cX6_fit 66 = .ok (.ireturn, 1) := by decide +kernel
theorem dX6_hasSignals_0 : decode cX6_hasSignals 0 = .ok (.iconst 0, 1) := by decide +kernel
theorem dX6_hasSignals_1 : decode cX6_hasSignals 1 = .ok (.istore_n 2, 1) := by decide +kernel
theorem dX6_hasSignals_2 : decode cX6_hasSignals 2 = .ok (.iload_n 2, 1) := by decide +kernel
theorem dX6_hasSignals_3 : decode cX6_hasSignals 3 = .ok (.bipush 12, 2) := by decide +kernel
theorem dX6_hasSignals_5 : decode cX6_hasSignals 5 = .ok (.if_icmp .ge 21, 3) := by decide +kernel
theorem dX6_hasSignals_8 : decode cX6_hasSignals 8 = .ok (.aload_n 0, 1) := by decide +kernel
theorem dX6_hasSignals_9 : decode cX6_hasSignals 9 = .ok (.getfield 19, 3) := by decide +kernel
theorem dX6_hasSignals_12 : decode cX6_hasSignals 12 = .ok (.iload_n 2, 1) := by decide +kernel
theorem dX6_hasSignals_13 : decode cX6_hasSignals 13 = .ok (.iaload, 1) := by decide +kernel
theorem dX6_hasSignals_14 : decode cX6_hasSignals 14 = .ok (.iload_n 1, 1) := by decide +kernel
theorem dX6_hasSignals_15 : decode cX6_hasSignals 15 = .ok (.if_icmp .ne 5, 3) := by decide +kernel
theorem dX6_hasSignals_18 : decode cX6_hasSignals 18 = .ok (.iconst 1, 1) := by decide +kernel
theorem dX6_hasSignals_19 : decode cX6_hasSignals 19 = .ok (.ireturn, 1) := by decide +kernel
theorem dX6_hasSignals_20 : decode cX6_hasSignals 20 = .ok (.iinc 2 1, 3) := by decide +kernel
theorem dX6_hasSignals_23 : decode cX6_hasSignals 23 = .ok (.goto (-21), 3) := by decide +kernel
theorem dX6_hasSignals_26 : decode cX6_hasSignals 26 = .ok (.iconst 0, 1) := by decide +kernel
theorem dX6_hasSignals_27 : decode cX6_hasSignals 27 = .ok (.ireturn, 1) := by decide +kernel
theorem dX6_fitsBy_0 : decode cX6_fitsBy 0 = .ok (.iconst 0, 1) := by decide +kernel
theorem dX6_fitsBy_1 : decode cX6_fitsBy 1 = .ok (.iload_n 2, 1) := by decide +kernel
theorem dX6_fitsBy_2 : decode cX6_fitsBy 2 = .ok (.ineg, 1) := by decide +kernel
theorem dX6_fitsBy_3 : decode cX6_fitsBy 3 = .ok (.invokestatic 219, 3) := by decide +kernel
theorem dX6_fitsBy_6 : decode cX6_fitsBy 6 = .ok (.istore_n 3, 1) := by decide +kernel
theorem dX6_fitsBy_7 : decode cX6_fitsBy 7 = .ok (.aload_n 0, 1) := by decide +kernel
theorem dX6_fitsBy_8 : decode cX6_fitsBy 8 = .ok (.getfield 54, 3) := by decide +kernel
theorem dX6_fitsBy_11 : decode cX6_fitsBy 11 = .ok (.aload_n 0, 1) := by decide +kernel
theorem dX6_fitsBy_12 : decode cX6_fitsBy 12 = .ok (.getfield 54, 3) := by decide +kernel
theorem dX6_fitsBy_15 : decode cX6_fitsBy 15 = .ok (.iload_n 2, 1) := by decide +kernel
theorem dX6_fitsBy_16 : decode cX6_fitsBy 16 = .ok (.isub, 1) := by decide +kernel
theorem dX6_fitsBy_17 : decode cX6_fitsBy 17 = .ok (.invokestatic 224, 3) := by decide +kernel
theorem dX6_fitsBy_20 : decode cX6_fitsBy 20 = .ok (.istore 4, 2) := by decide +kernel
theorem dX6_fitsBy_22 : decode cX6_fitsBy 22 = .ok (.iload_n 3, 1) := by decide +kernel
theorem dX6_fitsBy_23 : decode cX6_fitsBy 23 = .ok (.iload 4, 2) := by decide +kernel
theorem dX6_fitsBy_25 : decode cX6_fitsBy 25 = .ok (.if_icmp .lt 5, 3) := by decide +kernel
theorem dX6_fitsBy_28 : decode cX6_fitsBy 28 = .ok (.iconst 0, 1) := by decide +kernel
theorem dX6_fitsBy_29 : decode cX6_fitsBy 29 = .ok (.ireturn, 1) := by decide +kernel
theorem dX6_fitsBy_30 : decode cX6_fitsBy 30 = .ok (.iconst 0, 1) := by decide +kernel
theorem dX6_fitsBy_31 : decode cX6_fitsBy 31 = .ok (.istore 5, 2) := by decide +kernel
theorem dX6_fitsBy_33 : decode cX6_fitsBy 33 = .ok (.iload 5, 2) := by decide +kernel
theorem dX6_fitsBy_35 : decode cX6_fitsBy 35 = .ok (.bipush 12, 2) := by decide +kernel
theorem dX6_fitsBy_37 : decode cX6_fitsBy 37 = .ok (.if_icmp .ge 44, 3) := by decide +kernel
theorem dX6_fitsBy_40 : decode cX6_fitsBy 40 = .ok (.aload_n 0, 1) := by decide +kernel
theorem dX6_fitsBy_41 : decode cX6_fitsBy 41 = .ok (.getfield 19, 3) := by decide +kernel
theorem dX6_fitsBy_44 : decode cX6_fitsBy 44 = .ok (.iload 5, 2) := by decide +kernel
theorem dX6_fitsBy_46 : decode cX6_fitsBy 46 = .ok (.iaload, 1) := by decide +kernel
theorem dX6_fitsBy_47 : decode cX6_fitsBy 47 = .ok (.iload_n 1, 1) := by decide +kernel
theorem dX6_fitsBy_48 : decode cX6_fitsBy 48 = .ok (.if_icmp .ne 27, 3) := by decide +kernel
theorem dX6_fitsBy_51 : decode cX6_fitsBy 51 = .ok (.aload_n 0, 1) := by decide +kernel
theorem dX6_fitsBy_52 : decode cX6_fitsBy 52 = .ok (.iload 5, 2) := by decide +kernel
theorem dX6_fitsBy_54 : decode cX6_fitsBy 54 = .ok (.iload_n 2, 1) := by decide +kernel
theorem dX6_fitsBy_55 : decode cX6_fitsBy 55 = .ok (.invokevirtual 128, 3) := by decide +kernel
theorem dX6_fitsBy_58 : decode cX6_fitsBy 58 = .ok (.aload_n 0, 1) := by decide +kernel
theorem dX6_fitsBy_59 : decode cX6_fitsBy 59 = .ok (.getfield 46, 3) := by decide +kernel
theorem dX6_fitsBy_62 : decode cX6_fitsBy 62 = .ok (.iload_n 3, 1) := by decide +kernel
theorem dX6_fitsBy_63 : decode cX6_fitsBy 63 = .ok (.iload 4, 2) := by decide +kernel
theorem dX6_fitsBy_65 : decode cX6_fitsBy 65 = .ok (.invokevirtual 144, 3) := by decide +kernel
theorem dX6_fitsBy_68 : decode cX6_fitsBy 68 = .ok (.iload 4, 2) := by decide +kernel
theorem dX6_fitsBy_70 : decode cX6_fitsBy 70 = .ok (.if_icmp .ge 5, 3) := by decide +kernel
theorem dX6_fitsBy_73 : decode cX6_fitsBy 73 = .ok (.iconst 0, 1) := by decide +kernel
theorem dX6_fitsBy_74 : decode cX6_fitsBy 74 = .ok (.ireturn, 1) := by decide +kernel
theorem dX6_fitsBy_75 : decode cX6_fitsBy 75 = .ok (.iinc 5 1, 3) := by decide +kernel
theorem dX6_fitsBy_78 : decode cX6_fitsBy 78 = .ok (.goto (-45), 3) := by decide +kernel
theorem dX6_fitsBy_81 : decode cX6_fitsBy 81 = .ok (.iconst 1, 1) := by decide +kernel
theorem dX6_fitsBy_82 : decode cX6_fitsBy 82 = .ok (.ireturn, 1) := by decide +kernel
theorem dX6_gate_0 : decode cX6_gate 0 = .ok (.iload_n 1, 1) := by decide +kernel
theorem dX6_gate_1 : decode cX6_gate 1 = .ok (.invokestatic 117, 3) := by decide +kernel
theorem dX6_gate_4 : decode cX6_gate 4 = .ok (.ifCond .ne 20, 3) := by decide +kernel
theorem dX6_gate_7 : decode cX6_gate 7 = .ok (.iload_n 2, 1) := by decide +kernel
theorem dX6_gate_8 : decode cX6_gate 8 = .ok (.iconst 0, 1) := by decide +kernel
theorem dX6_gate_9 : decode cX6_gate 9 = .ok (.bipush 6, 2) := by decide +kernel
theorem dX6_gate_11 : decode cX6_gate 11 = .ok (.invokestatic 69, 3) := by decide +kernel
theorem dX6_gate_14 : decode cX6_gate 14 = .ok (.ifCond .ne 10, 3) := by decide +kernel
theorem dX6_gate_17 : decode cX6_gate 17 = .ok (.iload_n 3, 1) := by decide +kernel
theorem dX6_gate_18 : decode cX6_gate 18 = .ok (.invokestatic 117, 3) := by decide +kernel
theorem dX6_gate_21 : decode cX6_gate 21 = .ok (.ifCond .eq 5, 3) := by decide +kernel
theorem dX6_gate_24 : decode cX6_gate 24 = .ok (.iconst (-1), 1) := by decide +kernel
theorem dX6_gate_25 : decode cX6_gate 25 = .ok (.ireturn, 1) := by decide +kernel
theorem dX6_gate_26 : decode cX6_gate 26 = .ok (.iload_n 2, 1) := by decide +kernel
theorem dX6_gate_27 : decode cX6_gate 27 = .ok (.ifCond .eq 10, 3) := by decide +kernel
theorem dX6_gate_30 : decode cX6_gate 30 = .ok (.iload_n 3, 1) := by decide +kernel
theorem dX6_gate_31 : decode cX6_gate 31 = .ok (.iload_n 1, 1) := by decide +kernel
theorem dX6_gate_32 : decode cX6_gate 32 = .ok (.if_icmp .ne 5, 3) := by decide +kernel
theorem dX6_gate_35 : decode cX6_gate 35 = .ok (.iconst (-1), 1) := by decide +kernel
theorem dX6_gate_36 : decode cX6_gate 36 = .ok (.ireturn, 1) := by decide +kernel
theorem dX6_gate_37 : decode cX6_gate 37 = .ok (.iload_n 2, 1) := by decide +kernel
theorem dX6_gate_38 : decode cX6_gate 38 = .ok (.iconst 1, 1) := by decide +kernel
theorem dX6_gate_39 : decode cX6_gate 39 = .ok (.if_icmp .le 19, 3) := by decide +kernel
theorem dX6_gate_42 : decode cX6_gate 42 = .ok (.iload 4, 2) := by decide +kernel
theorem dX6_gate_44 : decode cX6_gate 44 = .ok (.invokestatic 117, 3) := by decide +kernel
theorem dX6_gate_47 : decode cX6_gate 47 = .ok (.ifCond .ne 9, 3) := by decide +kernel
theorem dX6_gate_50 : decode cX6_gate 50 = .ok (.iload 4, 2) := by decide +kernel
theorem dX6_gate_52 : decode cX6_gate 52 = .ok (.iload_n 1, 1) := by decide +kernel
theorem dX6_gate_53 : decode cX6_gate 53 = .ok (.if_icmp .ne 5, 3) := by decide +kernel
theorem dX6_gate_56 : decode cX6_gate 56 = .ok (.iconst (-1), 1) := by decide +kernel
theorem dX6_gate_57 : decode cX6_gate 57 = .ok (.ireturn, 1) := by decide +kernel
theorem dX6_gate_58 : decode cX6_gate 58 = .ok (.aload_n 0, 1) := by decide +kernel
theorem dX6_gate_59 : decode cX6_gate 59 = .ok (.getfield 39, 3) := by decide +kernel
theorem dX6_gate_62 : decode cX6_gate 62 = .ok (.iload_n 1, 1) := by decide +kernel
theorem dX6_gate_63 : decode cX6_gate 63 = .ok (.aaload, 1) := by decide +kernel
theorem dX6_gate_64 : decode cX6_gate 64 = .ok (.getfield 227, 3) := by decide +kernel
theorem dX6_gate_67 : decode cX6_gate 67 = .ok (.istore 5, 2) := by decide +kernel
theorem dX6_gate_69 : decode cX6_gate 69 = .ok (.aload_n 0, 1) := by decide +kernel
theorem dX6_gate_70 : decode cX6_gate 70 = .ok (.getfield 39, 3) := by decide +kernel
theorem dX6_gate_73 : decode cX6_gate 73 = .ok (.iload_n 1, 1) := by decide +kernel
theorem dX6_gate_74 : decode cX6_gate 74 = .ok (.aaload, 1) := by decide +kernel
theorem dX6_gate_75 : decode cX6_gate 75 = .ok (.iload_n 2, 1) := by decide +kernel
theorem dX6_gate_76 : decode cX6_gate 76 = .ok (.iload_n 3, 1) := by decide +kernel
theorem dX6_gate_77 : decode cX6_gate 77 = .ok (.iload_n 2, 1) := by decide +kernel
theorem dX6_gate_78 : decode cX6_gate 78 = .ok (.iconst 1, 1) := by decide +kernel
theorem dX6_gate_79 : decode cX6_gate 79 = .ok (.if_icmp .le 8, 3) := by decide +kernel
theorem dX6_gate_82 : decode cX6_gate 82 = .ok (.iload 4, 2) := by decide +kernel
theorem dX6_gate_84 : decode cX6_gate 84 = .ok (.goto 4, 3) := by decide +kernel
theorem dX6_gate_87 : decode cX6_gate 87 = .ok (.iload_n 3, 1) := by decide +kernel
theorem dX6_gate_88 : decode cX6_gate 88 = .ok (.invokevirtual 230, 3) := by decide +kernel
theorem dX6_gate_91 : decode cX6_gate 91 = .ok (.iload 5, 2) := by decide +kernel
theorem dX6_gate_93 : decode cX6_gate 93 = .ok (.ireturn, 1) := by decide +kernel
theorem dX6_guilty_0 : decode cX6_guilty 0 = .ok (.iload_n 1, 1) := by decide +kernel
theorem dX6_guilty_1 : decode cX6_guilty 1 = .ok (.iconst 0, 1) := by decide +kernel
theorem dX6_guilty_2 : decode cX6_guilty 2 = .ok (.aload_n 0, 1) := by decide +kernel
theorem dX6_guilty_3 : decode cX6_guilty 3 = .ok (.getfield 54, 3) := by decide +kernel
theorem dX6_guilty_6 : decode cX6_guilty 6 = .ok (.iconst 1, 1) := by decide +kernel
theorem dX6_guilty_7 : decode cX6_guilty 7 = .ok (.isub, 1) := by decide +kernel
theorem dX6_guilty_8 : decode cX6_guilty 8 = .ok (.invokestatic 69, 3) := by decide +kernel
theorem dX6_guilty_11 : decode cX6_guilty 11 = .ok (.ifCond .eq 5, 3) := by decide +kernel
theorem dX6_guilty_14 : decode cX6_guilty 14 = .ok (.iconst (-1), 1) := by decide +kernel
theorem dX6_guilty_15 : decode cX6_guilty 15 = .ok (.ireturn, 1) := by decide +kernel
theorem dX6_guilty_16 : decode cX6_guilty 16 = .ok (.iconst 0, 1) := by decide +kernel
theorem dX6_guilty_17 : decode cX6_guilty 17 = .ok (.istore_n 2, 1) := by decide +kernel
theorem dX6_guilty_18 : decode cX6_guilty 18 = .ok (.iload_n 2, 1) := by decide +kernel
theorem dX6_guilty_19 : decode cX6_guilty 19 = .ok (.bipush 12, 2) := by decide +kernel
theorem dX6_guilty_21 : decode cX6_guilty 21 = .ok (.if_icmp .ge 43, 3) := by decide +kernel
theorem dX6_guilty_24 : decode cX6_guilty 24 = .ok (.aload_n 0, 1) := by decide +kernel
theorem dX6_guilty_25 : decode cX6_guilty 25 = .ok (.getfield 39, 3) := by decide +kernel
theorem dX6_guilty_28 : decode cX6_guilty 28 = .ok (.iload_n 2, 1) := by decide +kernel
theorem dX6_guilty_29 : decode cX6_guilty 29 = .ok (.aaload, 1) := by decide +kernel
theorem dX6_guilty_30 : decode cX6_guilty 30 = .ok (.astore_n 3, 1) := by decide +kernel
theorem dX6_guilty_31 : decode cX6_guilty 31 = .ok (.aload_n 3, 1) := by decide +kernel
theorem dX6_guilty_32 : decode cX6_guilty 32 = .ok (.getfield 227, 3) := by decide +kernel
theorem dX6_guilty_35 : decode cX6_guilty 35 = .ok (.ifCond .eq 23, 3) := by decide +kernel
theorem dX6_guilty_38 : decode cX6_guilty 38 = .ok (.aload_n 0, 1) := by decide +kernel
theorem dX6_guilty_39 : decode cX6_guilty 39 = .ok (.iload_n 2, 1) := by decide +kernel
theorem dX6_guilty_40 : decode cX6_guilty 40 = .ok (.iload_n 1, 1) := by decide +kernel
theorem dX6_guilty_41 : decode cX6_guilty 41 = .ok (.invokevirtual 232, 3) := by decide +kernel
theorem dX6_guilty_44 : decode cX6_guilty 44 = .ok (.ifCond .ne 14, 3) := by decide +kernel
theorem dX6_guilty_47 : decode cX6_guilty 47 = .ok (.aload_n 0, 1) := by decide +kernel
theorem dX6_guilty_48 : decode cX6_guilty 48 = .ok (.aload_n 3, 1) := by decide +kernel
theorem dX6_guilty_49 : decode cX6_guilty 49 = .ok (.iload_n 1, 1) := by decide +kernel
theorem dX6_guilty_50 : decode cX6_guilty 50 = .ok (.invokevirtual 235, 3) := by decide +kernel
theorem dX6_guilty_53 : decode cX6_guilty 53 = .ok (.ifCond .eq 5, 3) := by decide +kernel
theorem dX6_guilty_56 : decode cX6_guilty 56 = .ok (.iload_n 2, 1) := by decide +kernel
theorem dX6_guilty_57 : decode cX6_guilty 57 = .ok (.ireturn, 1) := by decide +kernel
theorem dX6_guilty_58 : decode cX6_guilty 58 = .ok (.iinc 2 1, 3) := by decide +kernel
theorem dX6_guilty_61 : decode cX6_guilty 61 = .ok (.goto (-43), 3) := by decide +kernel
theorem dX6_guilty_64 : decode cX6_guilty 64 = .ok (.bipush (-4), 2) := by decide +kernel
theorem dX6_guilty_66 : decode cX6_guilty 66 = .ok (.ireturn, 1) := by decide +kernel
theorem dX6_inputsAgree_0 : decode cX6_inputsAgree 0 = .ok (.aload_n 1, 1) := by decide +kernel
theorem dX6_inputsAgree_1 : decode cX6_inputsAgree 1 = .ok (.getfield 227, 3) := by decide +kernel
theorem dX6_inputsAgree_4 : decode cX6_inputsAgree 4 = .ok (.bipush 6, 2) := by decide +kernel
theorem dX6_inputsAgree_6 : decode cX6_inputsAgree 6 = .ok (.if_icmp .ne 10, 3) := by decide +kernel
theorem dX6_inputsAgree_9 : decode cX6_inputsAgree 9 = .ok (.aload_n 0, 1) := by decide +kernel
theorem dX6_inputsAgree_10 : decode cX6_inputsAgree 10 = .ok (.aload_n 1, 1) := by decide +kernel
theorem dX6_inputsAgree_11 : decode cX6_inputsAgree 11 = .ok (.iload_n 2, 1) := by decide +kernel
theorem dX6_inputsAgree_12 : decode cX6_inputsAgree 12 = .ok (.invokevirtual 239, 3) := by decide +kernel
theorem dX6_inputsAgree_15 : decode cX6_inputsAgree 15 = .ok (.ireturn, 1) := by decide +kernel
theorem dX6_inputsAgree_16 : decode cX6_inputsAgree 16 = .ok (.aload_n 0, 1) := by decide +kernel
theorem dX6_inputsAgree_17 : decode cX6_inputsAgree 17 = .ok (.aload_n 1, 1) := by decide +kernel
theorem dX6_inputsAgree_18 : decode cX6_inputsAgree 18 = .ok (.getfield 242, 3) := by decide +kernel
theorem dX6_inputsAgree_21 : decode cX6_inputsAgree 21 = .ok (.iload_n 2, 1) := by decide +kernel
theorem dX6_inputsAgree_22 : decode cX6_inputsAgree 22 = .ok (.invokevirtual 232, 3) := by decide +kernel
theorem dX6_inputsAgree_25 : decode cX6_inputsAgree 25 = .ok (.ifCond .eq 27, 3) := by decide +kernel
theorem dX6_inputsAgree_28 : decode cX6_inputsAgree 28 = .ok (.aload_n 1, 1) := by decide +kernel
theorem dX6_inputsAgree_29 : decode cX6_inputsAgree 29 = .ok (.getfield 227, 3) := by decide +kernel
theorem dX6_inputsAgree_32 : decode cX6_inputsAgree 32 = .ok (.iconst 1, 1) := by decide +kernel
theorem dX6_inputsAgree_33 : decode cX6_inputsAgree 33 = .ok (.if_icmp .eq 15, 3) := by decide +kernel
theorem dX6_inputsAgree_36 : decode cX6_inputsAgree 36 = .ok (.aload_n 0, 1) := by decide +kernel
theorem dX6_inputsAgree_37 : decode cX6_inputsAgree 37 = .ok (.aload_n 1, 1) := by decide +kernel
theorem dX6_inputsAgree_38 : decode cX6_inputsAgree 38 = .ok (.getfield 245, 3) := by decide +kernel
theorem dX6_inputsAgree_41 : decode cX6_inputsAgree 41 = .ok (.iload_n 2, 1) := by decide +kernel
theorem dX6_inputsAgree_42 : decode cX6_inputsAgree 42 = .ok (.invokevirtual 232, 3) := by decide +kernel
theorem dX6_inputsAgree_45 : decode cX6_inputsAgree 45 = .ok (.ifCond .eq 7, 3) := by decide +kernel
theorem dX6_inputsAgree_48 : decode cX6_inputsAgree 48 = .ok (.iconst 1, 1) := by decide +kernel
theorem dX6_inputsAgree_49 : decode cX6_inputsAgree 49 = .ok (.goto 4, 3) := by decide +kernel
theorem dX6_inputsAgree_52 : decode cX6_inputsAgree 52 = .ok (.iconst 0, 1) := by decide +kernel
theorem dX6_inputsAgree_53 : decode cX6_inputsAgree 53 = .ok (.ireturn, 1) := by decide +kernel
theorem dX6_storedAgree_0 : decode cX6_storedAgree 0 = .ok (.aload_n 0, 1) := by decide +kernel
theorem dX6_storedAgree_1 : decode cX6_storedAgree 1 = .ok (.iconst 0, 1) := by decide +kernel
theorem dX6_storedAgree_2 : decode cX6_storedAgree 2 = .ok (.aload_n 1, 1) := by decide +kernel
theorem dX6_storedAgree_3 : decode cX6_storedAgree 3 = .ok (.getfield 245, 3) := by decide +kernel
theorem dX6_storedAgree_6 : decode cX6_storedAgree 6 = .ok (.invokevirtual 154, 3) := by decide +kernel
theorem dX6_storedAgree_9 : decode cX6_storedAgree 9 = .ok (.iload_n 2, 1) := by decide +kernel
theorem dX6_storedAgree_10 : decode cX6_storedAgree 10 = .ok (.invokevirtual 248, 3) := by decide +kernel
theorem dX6_storedAgree_13 : decode cX6_storedAgree 13 = .ok (.istore_n 3, 1) := by decide +kernel
theorem dX6_storedAgree_14 : decode cX6_storedAgree 14 = .ok (.iload_n 3, 1) := by decide +kernel
theorem dX6_storedAgree_15 : decode cX6_storedAgree 15 = .ok (.bipush (-4), 2) := by decide +kernel
theorem dX6_storedAgree_17 : decode cX6_storedAgree 17 = .ok (.if_icmp .eq 38, 3) := by decide +kernel
theorem dX6_storedAgree_20 : decode cX6_storedAgree 20 = .ok (.iload_n 3, 1) := by decide +kernel
theorem dX6_storedAgree_21 : decode cX6_storedAgree 21 = .ok (.aload_n 0, 1) := by decide +kernel
theorem dX6_storedAgree_22 : decode cX6_storedAgree 22 = .ok (.iconst 1, 1) := by decide +kernel
theorem dX6_storedAgree_23 : decode cX6_storedAgree 23 = .ok (.aload_n 1, 1) := by decide +kernel
theorem dX6_storedAgree_24 : decode cX6_storedAgree 24 = .ok (.getfield 245, 3) := by decide +kernel
theorem dX6_storedAgree_27 : decode cX6_storedAgree 27 = .ok (.invokevirtual 154, 3) := by decide +kernel
theorem dX6_storedAgree_30 : decode cX6_storedAgree 30 = .ok (.iload_n 2, 1) := by decide +kernel
theorem dX6_storedAgree_31 : decode cX6_storedAgree 31 = .ok (.invokevirtual 248, 3) := by decide +kernel
theorem dX6_storedAgree_34 : decode cX6_storedAgree 34 = .ok (.if_icmp .ne 21, 3) := by decide +kernel
theorem dX6_storedAgree_37 : decode cX6_storedAgree 37 = .ok (.aload_n 0, 1) := by decide +kernel
theorem dX6_storedAgree_38 : decode cX6_storedAgree 38 = .ok (.aload_n 1, 1) := by decide +kernel
theorem dX6_storedAgree_39 : decode cX6_storedAgree 39 = .ok (.getfield 242, 3) := by decide +kernel
theorem dX6_storedAgree_42 : decode cX6_storedAgree 42 = .ok (.iload_n 3, 1) := by decide +kernel
theorem dX6_storedAgree_43 : decode cX6_storedAgree 43 = .ok (.iconst 1, 1) := by decide +kernel
theorem dX6_storedAgree_44 : decode cX6_storedAgree 44 = .ok (.isub, 1) := by decide +kernel
theorem dX6_storedAgree_45 : decode cX6_storedAgree 45 = .ok (.invokevirtual 232, 3) := by decide +kernel
theorem dX6_storedAgree_48 : decode cX6_storedAgree 48 = .ok (.ifCond .eq 7, 3) := by decide +kernel
theorem dX6_storedAgree_51 : decode cX6_storedAgree 51 = .ok (.iconst 1, 1) := by decide +kernel
theorem dX6_storedAgree_52 : decode cX6_storedAgree 52 = .ok (.goto 4, 3) := by decide +kernel
theorem dX6_storedAgree_55 : decode cX6_storedAgree 55 = .ok (.iconst 0, 1) := by decide +kernel
theorem dX6_storedAgree_56 : decode cX6_storedAgree 56 = .ok (.ireturn, 1) := by decide +kernel
theorem dX6_agreeAt_0 : decode cX6_agreeAt 0 = .ok (.aload_n 0, 1) := by decide +kernel
theorem dX6_agreeAt_1 : decode cX6_agreeAt 1 = .ok (.iconst 0, 1) := by decide +kernel
theorem dX6_agreeAt_2 : decode cX6_agreeAt 2 = .ok (.iload_n 1, 1) := by decide +kernel
theorem dX6_agreeAt_3 : decode cX6_agreeAt 3 = .ok (.invokevirtual 77, 3) := by decide +kernel
theorem dX6_agreeAt_6 : decode cX6_agreeAt 6 = .ok (.iload_n 2, 1) := by decide +kernel
theorem dX6_agreeAt_7 : decode cX6_agreeAt 7 = .ok (.invokevirtual 110, 3) := by decide +kernel
theorem dX6_agreeAt_10 : decode cX6_agreeAt 10 = .ok (.aload_n 0, 1) := by decide +kernel
theorem dX6_agreeAt_11 : decode cX6_agreeAt 11 = .ok (.iconst 1, 1) := by decide +kernel
theorem dX6_agreeAt_12 : decode cX6_agreeAt 12 = .ok (.iload_n 1, 1) := by decide +kernel
theorem dX6_agreeAt_13 : decode cX6_agreeAt 13 = .ok (.invokevirtual 154, 3) := by decide +kernel
theorem dX6_agreeAt_16 : decode cX6_agreeAt 16 = .ok (.iload_n 2, 1) := by decide +kernel
theorem dX6_agreeAt_17 : decode cX6_agreeAt 17 = .ok (.invokevirtual 110, 3) := by decide +kernel
theorem dX6_agreeAt_20 : decode cX6_agreeAt 20 = .ok (.aload_n 0, 1) := by decide +kernel
theorem dX6_agreeAt_21 : decode cX6_agreeAt 21 = .ok (.getfield 57, 3) := by decide +kernel
theorem dX6_agreeAt_24 : decode cX6_agreeAt 24 = .ok (.invokestatic 191, 3) := by decide +kernel
theorem dX6_agreeAt_27 : decode cX6_agreeAt 27 = .ok (.ireturn, 1) := by decide +kernel
theorem dX6_alike_0 : decode cX6_alike 0 = .ok (.iload_n 1, 1) := by decide +kernel
theorem dX6_alike_1 : decode cX6_alike 1 = .ok (.invokestatic 117, 3) := by decide +kernel
theorem dX6_alike_4 : decode cX6_alike 4 = .ok (.ifCond .eq 5, 3) := by decide +kernel
theorem dX6_alike_7 : decode cX6_alike 7 = .ok (.iconst (-1), 1) := by decide +kernel
theorem dX6_alike_8 : decode cX6_alike 8 = .ok (.ireturn, 1) := by decide +kernel
theorem dX6_alike_9 : decode cX6_alike 9 = .ok (.iconst 0, 1) := by decide +kernel
theorem dX6_alike_10 : decode cX6_alike 10 = .ok (.istore_n 2, 1) := by decide +kernel
theorem dX6_alike_11 : decode cX6_alike 11 = .ok (.iconst 0, 1) := by decide +kernel
theorem dX6_alike_12 : decode cX6_alike 12 = .ok (.istore_n 3, 1) := by decide +kernel
theorem dX6_alike_13 : decode cX6_alike 13 = .ok (.iload_n 3, 1) := by decide +kernel
theorem dX6_alike_14 : decode cX6_alike 14 = .ok (.bipush 12, 2) := by decide +kernel
theorem dX6_alike_16 : decode cX6_alike 16 = .ok (.if_icmp .ge 68, 3) := by decide +kernel
theorem dX6_alike_19 : decode cX6_alike 19 = .ok (.aload_n 0, 1) := by decide +kernel
theorem dX6_alike_20 : decode cX6_alike 20 = .ok (.getfield 46, 3) := by decide +kernel
theorem dX6_alike_23 : decode cX6_alike 23 = .ok (.invokevirtual 147, 3) := by decide +kernel
theorem dX6_alike_26 : decode cX6_alike 26 = .ok (.aload_n 0, 1) := by decide +kernel
theorem dX6_alike_27 : decode cX6_alike 27 = .ok (.getfield 46, 3) := by decide +kernel
theorem dX6_alike_30 : decode cX6_alike 30 = .ok (.invokevirtual 150, 3) := by decide +kernel
theorem dX6_alike_33 : decode cX6_alike 33 = .ok (.aload_n 0, 1) := by decide +kernel
theorem dX6_alike_34 : decode cX6_alike 34 = .ok (.iconst 0, 1) := by decide +kernel
theorem dX6_alike_35 : decode cX6_alike 35 = .ok (.iload_n 1, 1) := by decide +kernel
theorem dX6_alike_36 : decode cX6_alike 36 = .ok (.invokevirtual 77, 3) := by decide +kernel
theorem dX6_alike_39 : decode cX6_alike 39 = .ok (.aload_n 0, 1) := by decide +kernel
theorem dX6_alike_40 : decode cX6_alike 40 = .ok (.iconst 1, 1) := by decide +kernel
theorem dX6_alike_41 : decode cX6_alike 41 = .ok (.iload_n 3, 1) := by decide +kernel
theorem dX6_alike_42 : decode cX6_alike 42 = .ok (.invokevirtual 77, 3) := by decide +kernel
theorem dX6_alike_45 : decode cX6_alike 45 = .ok (.iconst 0, 1) := by decide +kernel
theorem dX6_alike_46 : decode cX6_alike 46 = .ok (.aload_n 0, 1) := by decide +kernel
theorem dX6_alike_47 : decode cX6_alike 47 = .ok (.getfield 57, 3) := by decide +kernel
theorem dX6_alike_50 : decode cX6_alike 50 = .ok (.invokevirtual 157, 3) := by decide +kernel
theorem dX6_alike_53 : decode cX6_alike 53 = .ok (.aload_n 0, 1) := by decide +kernel
theorem dX6_alike_54 : decode cX6_alike 54 = .ok (.getfield 46, 3) := by decide +kernel
theorem dX6_alike_57 : decode cX6_alike 57 = .ok (.iconst 0, 1) := by decide +kernel
theorem dX6_alike_58 : decode cX6_alike 58 = .ok (.aload_n 0, 1) := by decide +kernel
theorem dX6_alike_59 : decode cX6_alike 59 = .ok (.getfield 54, 3) := by decide +kernel
theorem dX6_alike_62 : decode cX6_alike 62 = .ok (.invokevirtual 144, 3) := by decide +kernel
theorem dX6_alike_65 : decode cX6_alike 65 = .ok (.aload_n 0, 1) := by decide +kernel
theorem dX6_alike_66 : decode cX6_alike 66 = .ok (.getfield 54, 3) := by decide +kernel
theorem dX6_alike_69 : decode cX6_alike 69 = .ok (.if_icmp .lt 9, 3) := by decide +kernel
theorem dX6_alike_72 : decode cX6_alike 72 = .ok (.iload_n 2, 1) := by decide +kernel
theorem dX6_alike_73 : decode cX6_alike 73 = .ok (.iconst 1, 1) := by decide +kernel
theorem dX6_alike_74 : decode cX6_alike 74 = .ok (.iload_n 3, 1) := by decide +kernel
theorem dX6_alike_75 : decode cX6_alike 75 = .ok (.ishl, 1) := by decide +kernel
theorem dX6_alike_76 : decode cX6_alike 76 = .ok (.ior, 1) := by decide +kernel
theorem dX6_alike_77 : decode cX6_alike 77 = .ok (.istore_n 2, 1) := by decide +kernel
theorem dX6_alike_78 : decode cX6_alike 78 = .ok (.iinc 3 1, 3) := by decide +kernel
theorem dX6_alike_81 : decode cX6_alike 81 = .ok (.goto (-68), 3) := by decide +kernel
theorem dX6_alike_84 : decode cX6_alike 84 = .ok (.iload_n 2, 1) := by decide +kernel
theorem dX6_alike_85 : decode cX6_alike 85 = .ok (.ireturn, 1) := by decide +kernel
theorem dX6_holds_0 : decode cX6_holds 0 = .ok (.iload_n 1, 1) := by decide +kernel
theorem dX6_holds_1 : decode cX6_holds 1 = .ok (.iload_n 2, 1) := by decide +kernel
theorem dX6_holds_2 : decode cX6_holds 2 = .ok (.invokestatic 65, 3) := by decide +kernel
theorem dX6_holds_5 : decode cX6_holds 5 = .ok (.ifCond .ne 26, 3) := by decide +kernel
theorem dX6_holds_8 : decode cX6_holds 8 = .ok (.iload_n 3, 1) := by decide +kernel
theorem dX6_holds_9 : decode cX6_holds 9 = .ok (.invokestatic 73, 3) := by decide +kernel
theorem dX6_holds_12 : decode cX6_holds 12 = .ok (.ifCond .ne 19, 3) := by decide +kernel
theorem dX6_holds_15 : decode cX6_holds 15 = .ok (.iload 4, 2) := by decide +kernel
theorem dX6_holds_17 : decode cX6_holds 17 = .ok (.invokestatic 117, 3) := by decide +kernel
theorem dX6_holds_20 : decode cX6_holds 20 = .ok (.ifCond .ne 11, 3) := by decide +kernel
theorem dX6_holds_23 : decode cX6_holds 23 = .ok (.iload 5, 2) := by decide +kernel
theorem dX6_holds_25 : decode cX6_holds 25 = .ok (.invokestatic 73, 3) := by decide +kernel
theorem dX6_holds_28 : decode cX6_holds 28 = .ok (.ifCond .eq 5, 3) := by decide +kernel
theorem dX6_holds_31 : decode cX6_holds 31 = .ok (.iconst (-1), 1) := by decide +kernel
theorem dX6_holds_32 : decode cX6_holds 32 = .ok (.ireturn, 1) := by decide +kernel
theorem dX6_holds_33 : decode cX6_holds 33 = .ok (.iload 6, 2) := by decide +kernel
theorem dX6_holds_35 : decode cX6_holds 35 = .ok (.iconst 1, 1) := by decide +kernel
theorem dX6_holds_36 : decode cX6_holds 36 = .ok (.sipush 4000, 3) := by decide +kernel
theorem dX6_holds_39 : decode cX6_holds 39 = .ok (.invokestatic 69, 3) := by decide +kernel
theorem dX6_holds_42 : decode cX6_holds 42 = .ok (.ifCond .ne 19, 3) := by decide +kernel
theorem dX6_holds_45 : decode cX6_holds 45 = .ok (.iload 7, 2) := by decide +kernel
theorem dX6_holds_47 : decode cX6_holds 47 = .ok (.iconst (-1), 1) := by decide +kernel
theorem dX6_holds_48 : decode cX6_holds 48 = .ok (.if_icmp .lt 13, 3) := by decide +kernel
theorem dX6_holds_51 : decode cX6_holds 51 = .ok (.iload 8, 2) := by decide +kernel
theorem dX6_holds_53 : decode cX6_holds 53 = .ok (.iconst 0, 1) := by decide +kernel
theorem dX6_holds_54 : decode cX6_holds 54 = .ok (.iconst 1, 1) := by decide +kernel
theorem dX6_holds_55 : decode cX6_holds 55 = .ok (.invokestatic 69, 3) := by decide +kernel
theorem dX6_holds_58 : decode cX6_holds 58 = .ok (.ifCond .eq 5, 3) := by decide +kernel
theorem dX6_holds_61 : decode cX6_holds 61 = .ok (.iconst (-1), 1) := by decide +kernel
theorem dX6_holds_62 : decode cX6_holds 62 = .ok (.ireturn, 1) := by decide +kernel
theorem dX6_holds_63 : decode cX6_holds 63 = .ok (.aload_n 0, 1) := by decide +kernel
theorem dX6_holds_64 : decode cX6_holds 64 = .ok (.getfield 46, 3) := by decide +kernel
theorem dX6_holds_67 : decode cX6_holds 67 = .ok (.invokevirtual 147, 3) := by decide +kernel
theorem dX6_holds_70 : decode cX6_holds 70 = .ok (.aload_n 0, 1) := by decide +kernel
theorem dX6_holds_71 : decode cX6_holds 71 = .ok (.getfield 46, 3) := by decide +kernel
theorem dX6_holds_74 : decode cX6_holds 74 = .ok (.invokevirtual 150, 3) := by decide +kernel
theorem dX6_holds_77 : decode cX6_holds 77 = .ok (.aload_n 0, 1) := by decide +kernel
theorem dX6_holds_78 : decode cX6_holds 78 = .ok (.iload_n 1, 1) := by decide +kernel
theorem dX6_holds_79 : decode cX6_holds 79 = .ok (.iload_n 2, 1) := by decide +kernel
theorem dX6_holds_80 : decode cX6_holds 80 = .ok (.invokevirtual 77, 3) := by decide +kernel
theorem dX6_holds_83 : decode cX6_holds 83 = .ok (.iload_n 3, 1) := by decide +kernel
theorem dX6_holds_84 : decode cX6_holds 84 = .ok (.invokevirtual 251, 3) := by decide +kernel
theorem dX6_holds_87 : decode cX6_holds 87 = .ok (.iload 4, 2) := by decide +kernel
theorem dX6_holds_89 : decode cX6_holds 89 = .ok (.iload_n 2, 1) := by decide +kernel
theorem dX6_holds_90 : decode cX6_holds 90 = .ok (.if_icmp .eq 22, 3) := by decide +kernel
theorem dX6_holds_93 : decode cX6_holds 93 = .ok (.aload_n 0, 1) := by decide +kernel
theorem dX6_holds_94 : decode cX6_holds 94 = .ok (.getfield 46, 3) := by decide +kernel
theorem dX6_holds_97 : decode cX6_holds 97 = .ok (.invokevirtual 150, 3) := by decide +kernel
theorem dX6_holds_100 : decode cX6_holds 100 = .ok (.aload_n 0, 1) := by decide +kernel
theorem dX6_holds_101 : decode cX6_holds 101 = .ok (.iload_n 1, 1) := by decide +kernel
theorem dX6_holds_102 : decode cX6_holds 102 = .ok (.iload 4, 2) := by decide +kernel
theorem dX6_holds_104 : decode cX6_holds 104 = .ok (.invokevirtual 77, 3) := by decide +kernel
theorem dX6_holds_107 : decode cX6_holds 107 = .ok (.iload 5, 2) := by decide +kernel
theorem dX6_holds_109 : decode cX6_holds 109 = .ok (.invokevirtual 173, 3) := by decide +kernel
theorem dX6_holds_112 : decode cX6_holds 112 = .ok (.iload 7, 2) := by decide +kernel
theorem dX6_holds_114 : decode cX6_holds 114 = .ok (.iconst (-1), 1) := by decide +kernel
theorem dX6_holds_115 : decode cX6_holds 115 = .ok (.if_icmp .ne 17, 3) := by decide +kernel
theorem dX6_holds_118 : decode cX6_holds 118 = .ok (.aload_n 0, 1) := by decide +kernel
theorem dX6_holds_119 : decode cX6_holds 119 = .ok (.getfield 46, 3) := by decide +kernel
theorem dX6_holds_122 : decode cX6_holds 122 = .ok (.iload 6, 2) := by decide +kernel
theorem dX6_holds_124 : decode cX6_holds 124 = .ok (.aload_n 0, 1) := by decide +kernel
theorem dX6_holds_125 : decode cX6_holds 125 = .ok (.getfield 54, 3) := by decide +kernel
theorem dX6_holds_128 : decode cX6_holds 128 = .ok (.invokevirtual 131, 3) := by decide +kernel
theorem dX6_holds_131 : decode cX6_holds 131 = .ok (.ireturn, 1) := by decide +kernel
theorem dX6_holds_132 : decode cX6_holds 132 = .ok (.aload_n 0, 1) := by decide +kernel
theorem dX6_holds_133 : decode cX6_holds 133 = .ok (.getfield 46, 3) := by decide +kernel
theorem dX6_holds_136 : decode cX6_holds 136 = .ok (.iload 7, 2) := by decide +kernel
theorem dX6_holds_138 : decode cX6_holds 138 = .ok (.iload 6, 2) := by decide +kernel
theorem dX6_holds_140 : decode cX6_holds 140 = .ok (.aload_n 0, 1) := by decide +kernel
theorem dX6_holds_141 : decode cX6_holds 141 = .ok (.getfield 54, 3) := by decide +kernel
theorem dX6_holds_144 : decode cX6_holds 144 = .ok (.invokevirtual 135, 3) := by decide +kernel
theorem dX6_holds_147 : decode cX6_holds 147 = .ok (.ifCond .eq 15, 3) := by decide +kernel
theorem dX6_holds_150 : decode cX6_holds 150 = .ok (.aload_n 0, 1) := by decide +kernel
theorem dX6_holds_151 : decode cX6_holds 151 = .ok (.getfield 46, 3) := by decide +kernel
theorem dX6_holds_154 : decode cX6_holds 154 = .ok (.iload 8, 2) := by decide +kernel
theorem dX6_holds_156 : decode cX6_holds 156 = .ok (.invokevirtual 138, 3) := by decide +kernel
theorem dX6_holds_159 : decode cX6_holds 159 = .ok (.goto 5, 3) := by decide +kernel
theorem dX6_holds_162 : decode cX6_holds 162 = .ok (.bipush (-4), 2) := by decide +kernel
theorem dX6_holds_164 : decode cX6_holds 164 = .ok (.ireturn, 1) := by decide +kernel
theorem dX6_window_0 : decode cX6_window 0 = .ok (.iload_n 1, 1) := by decide +kernel
theorem dX6_window_1 : decode cX6_window 1 = .ok (.iload_n 2, 1) := by decide +kernel
theorem dX6_window_2 : decode cX6_window 2 = .ok (.invokestatic 65, 3) := by decide +kernel
theorem dX6_window_5 : decode cX6_window 5 = .ok (.ifCond .ne 32, 3) := by decide +kernel
theorem dX6_window_8 : decode cX6_window 8 = .ok (.iload_n 3, 1) := by decide +kernel
theorem dX6_window_9 : decode cX6_window 9 = .ok (.ifCond .lt 28, 3) := by decide +kernel
theorem dX6_window_12 : decode cX6_window 12 = .ok (.iload_n 3, 1) := by decide +kernel
theorem dX6_window_13 : decode cX6_window 13 = .ok (.iload 4, 2) := by decide +kernel
theorem dX6_window_15 : decode cX6_window 15 = .ok (.if_icmp .ge 22, 3) := by decide +kernel
theorem dX6_window_18 : decode cX6_window 18 = .ok (.iload 4, 2) := by decide +kernel
theorem dX6_window_20 : decode cX6_window 20 = .ok (.aload_n 0, 1) := by decide +kernel
theorem dX6_window_21 : decode cX6_window 21 = .ok (.getfield 54, 3) := by decide +kernel
theorem dX6_window_24 : decode cX6_window 24 = .ok (.if_icmp .gt 13, 3) := by decide +kernel
theorem dX6_window_27 : decode cX6_window 27 = .ok (.iload 5, 2) := by decide +kernel
theorem dX6_window_29 : decode cX6_window 29 = .ok (.iconst 0, 1) := by decide +kernel
theorem dX6_window_30 : decode cX6_window 30 = .ok (.iconst 2, 1) := by decide +kernel
theorem dX6_window_31 : decode cX6_window 31 = .ok (.invokestatic 69, 3) := by decide +kernel
theorem dX6_window_34 : decode cX6_window 34 = .ok (.ifCond .eq 5, 3) := by decide +kernel
theorem dX6_window_37 : decode cX6_window 37 = .ok (.iconst (-1), 1) := by decide +kernel
theorem dX6_window_38 : decode cX6_window 38 = .ok (.ireturn, 1) := by decide +kernel
theorem dX6_window_39 : decode cX6_window 39 = .ok (.aload_n 0, 1) := by decide +kernel
theorem dX6_window_40 : decode cX6_window 40 = .ok (.iload_n 1, 1) := by decide +kernel
theorem dX6_window_41 : decode cX6_window 41 = .ok (.iload_n 2, 1) := by decide +kernel
theorem dX6_window_42 : decode cX6_window 42 = .ok (.invokevirtual 77, 3) := by decide +kernel
theorem dX6_window_45 : decode cX6_window 45 = .ok (.astore 6, 2) := by decide +kernel
theorem dX6_window_47 : decode cX6_window 47 = .ok (.iload 5, 2) := by decide +kernel
theorem dX6_window_49 : decode cX6_window 49 = .ok (.ifCond .ne 12, 3) := by decide +kernel
theorem dX6_window_52 : decode cX6_window 52 = .ok (.aload 6, 2) := by decide +kernel
theorem dX6_window_54 : decode cX6_window 54 = .ok (.iload_n 3, 1) := by decide +kernel
theorem dX6_window_55 : decode cX6_window 55 = .ok (.iload 4, 2) := by decide +kernel
theorem dX6_window_57 : decode cX6_window 57 = .ok (.invokevirtual 254, 3) := by decide +kernel
theorem dX6_window_60 : decode cX6_window 60 = .ok (.ireturn, 1) := by decide +kernel
theorem dX6_window_61 : decode cX6_window 61 = .ok (.iload 5, 2) := by decide +kernel
theorem dX6_window_63 : decode cX6_window 63 = .ok (.iconst 1, 1) := by decide +kernel
theorem dX6_window_64 : decode cX6_window 64 = .ok (.if_icmp .ne 14, 3) := by decide +kernel
theorem dX6_window_67 : decode cX6_window 67 = .ok (.aload 6, 2) := by decide +kernel
theorem dX6_window_69 : decode cX6_window 69 = .ok (.iload_n 3, 1) := by decide +kernel
theorem dX6_window_70 : decode cX6_window 70 = .ok (.iload 4, 2) := by decide +kernel
theorem dX6_window_72 : decode cX6_window 72 = .ok (.invokevirtual 257, 3) := by decide +kernel
theorem dX6_window_75 : decode cX6_window 75 = .ok (.goto 11, 3) := by decide +kernel
theorem dX6_window_78 : decode cX6_window 78 = .ok (.aload 6, 2) := by decide +kernel
theorem dX6_window_80 : decode cX6_window 80 = .ok (.iload_n 3, 1) := by decide +kernel
theorem dX6_window_81 : decode cX6_window 81 = .ok (.iload 4, 2) := by decide +kernel
theorem dX6_window_83 : decode cX6_window 83 = .ok (.invokevirtual 260, 3) := by decide +kernel
theorem dX6_window_86 : decode cX6_window 86 = .ok (.ireturn, 1) := by decide +kernel
theorem dX6_count_0 : decode cX6_count 0 = .ok (.iload_n 1, 1) := by decide +kernel
theorem dX6_count_1 : decode cX6_count 1 = .ok (.tableswitch 51 0 3 #[31, 36, 41, 46], 31) := by decide +kernel
theorem dX6_count_32 : decode cX6_count 32 = .ok (.aload_n 0, 1) := by decide +kernel
theorem dX6_count_33 : decode cX6_count 33 = .ok (.invokevirtual 263, 3) := by decide +kernel
theorem dX6_count_36 : decode cX6_count 36 = .ok (.ireturn, 1) := by decide +kernel
theorem dX6_count_37 : decode cX6_count 37 = .ok (.aload_n 0, 1) := by decide +kernel
theorem dX6_count_38 : decode cX6_count 38 = .ok (.getfield 50, 3) := by decide +kernel
theorem dX6_count_41 : decode cX6_count 41 = .ok (.ireturn, 1) := by decide +kernel
theorem dX6_count_42 : decode cX6_count 42 = .ok (.aload_n 0, 1) := by decide +kernel
theorem dX6_count_43 : decode cX6_count 43 = .ok (.invokevirtual 266, 3) := by decide +kernel
theorem dX6_count_46 : decode cX6_count 46 = .ok (.ireturn, 1) := by decide +kernel
theorem dX6_count_47 : decode cX6_count 47 = .ok (.aload_n 0, 1) := by decide +kernel
theorem dX6_count_48 : decode cX6_count 48 = .ok (.invokevirtual 269, 3) := by decide +kernel
theorem dX6_count_51 : decode cX6_count 51 = .ok (.ireturn, 1) := by decide +kernel
theorem dX6_count_52 : decode cX6_count 52 = .ok (.iconst (-1), 1) := by decide +kernel
theorem dX6_count_53 : decode cX6_count 53 = .ok (.ireturn, 1) := by decide +kernel
theorem dX6_countChanges_0 : decode cX6_countChanges 0 = .ok (.iconst 0, 1) := by decide +kernel
theorem dX6_countChanges_1 : decode cX6_countChanges 1 = .ok (.istore_n 1, 1) := by decide +kernel
theorem dX6_countChanges_2 : decode cX6_countChanges 2 = .ok (.aload_n 0, 1) := by decide +kernel
theorem dX6_countChanges_3 : decode cX6_countChanges 3 = .ok (.getfield 11, 3) := by decide +kernel
theorem dX6_countChanges_6 : decode cX6_countChanges 6 = .ok (.astore_n 2, 1) := by decide +kernel
theorem dX6_countChanges_7 : decode cX6_countChanges 7 = .ok (.aload_n 2, 1) := by decide +kernel
theorem dX6_countChanges_8 : decode cX6_countChanges 8 = .ok (.arraylength, 1) := by decide +kernel
theorem dX6_countChanges_9 : decode cX6_countChanges 9 = .ok (.istore_n 3, 1) := by decide +kernel
theorem dX6_countChanges_10 : decode cX6_countChanges 10 = .ok (.iconst 0, 1) := by decide +kernel
theorem dX6_countChanges_11 : decode cX6_countChanges 11 = .ok (.istore 4, 2) := by decide +kernel
theorem dX6_countChanges_13 : decode cX6_countChanges 13 = .ok (.iload 4, 2) := by decide +kernel
theorem dX6_countChanges_15 : decode cX6_countChanges 15 = .ok (.iload_n 3, 1) := by decide +kernel
theorem dX6_countChanges_16 : decode cX6_countChanges 16 = .ok (.if_icmp .ge 23, 3) := by decide +kernel
theorem dX6_countChanges_19 : decode cX6_countChanges 19 = .ok (.aload_n 2, 1) := by decide +kernel
theorem dX6_countChanges_20 : decode cX6_countChanges 20 = .ok (.iload 4, 2) := by decide +kernel
theorem dX6_countChanges_22 : decode cX6_countChanges 22 = .ok (.aaload, 1) := by decide +kernel
theorem dX6_countChanges_23 : decode cX6_countChanges 23 = .ok (.astore 5, 2) := by decide +kernel
theorem dX6_countChanges_25 : decode cX6_countChanges 25 = .ok (.iload_n 1, 1) := by decide +kernel
theorem dX6_countChanges_26 : decode cX6_countChanges 26 = .ok (.aload 5, 2) := by decide +kernel
theorem dX6_countChanges_28 : decode cX6_countChanges 28 = .ok (.invokevirtual 92, 3) := by decide +kernel
theorem dX6_countChanges_31 : decode cX6_countChanges 31 = .ok (.iadd, 1) := by decide +kernel
theorem dX6_countChanges_32 : decode cX6_countChanges 32 = .ok (.istore_n 1, 1) := by decide +kernel
theorem dX6_countChanges_33 : decode cX6_countChanges 33 = .ok (.iinc 4 1, 3) := by decide +kernel
theorem dX6_countChanges_36 : decode cX6_countChanges 36 = .ok (.goto (-23), 3) := by decide +kernel
theorem dX6_countChanges_39 : decode cX6_countChanges 39 = .ok (.iload_n 1, 1) := by decide +kernel
theorem dX6_countChanges_40 : decode cX6_countChanges 40 = .ok (.ireturn, 1) := by decide +kernel
theorem dX6_countChannels_0 : decode cX6_countChannels 0 = .ok (.iconst 0, 1) := by decide +kernel
theorem dX6_countChannels_1 : decode cX6_countChannels 1 = .ok (.istore_n 1, 1) := by decide +kernel
theorem dX6_countChannels_2 : decode cX6_countChannels 2 = .ok (.aload_n 0, 1) := by decide +kernel
theorem dX6_countChannels_3 : decode cX6_countChannels 3 = .ok (.getfield 33, 3) := by decide +kernel
theorem dX6_countChannels_6 : decode cX6_countChannels 6 = .ok (.astore_n 2, 1) := by decide +kernel
theorem dX6_countChannels_7 : decode cX6_countChannels 7 = .ok (.aload_n 2, 1) := by decide +kernel
theorem dX6_countChannels_8 : decode cX6_countChannels 8 = .ok (.arraylength, 1) := by decide +kernel
theorem dX6_countChannels_9 : decode cX6_countChannels 9 = .ok (.istore_n 3, 1) := by decide +kernel
theorem dX6_countChannels_10 : decode cX6_countChannels 10 = .ok (.iconst 0, 1) := by decide +kernel
theorem dX6_countChannels_11 : decode cX6_countChannels 11 = .ok (.istore 4, 2) := by decide +kernel
theorem dX6_countChannels_13 : decode cX6_countChannels 13 = .ok (.iload 4, 2) := by decide +kernel
theorem dX6_countChannels_15 : decode cX6_countChannels 15 = .ok (.iload_n 3, 1) := by decide +kernel
theorem dX6_countChannels_16 : decode cX6_countChannels 16 = .ok (.if_icmp .ge 31, 3) := by decide +kernel
theorem dX6_countChannels_19 : decode cX6_countChannels 19 = .ok (.aload_n 2, 1) := by decide +kernel
theorem dX6_countChannels_20 : decode cX6_countChannels 20 = .ok (.iload 4, 2) := by decide +kernel
theorem dX6_countChannels_22 : decode cX6_countChannels 22 = .ok (.aaload, 1) := by decide +kernel
theorem dX6_countChannels_23 : decode cX6_countChannels 23 = .ok (.astore 5, 2) := by decide +kernel
theorem dX6_countChannels_25 : decode cX6_countChannels 25 = .ok (.iload_n 1, 1) := by decide +kernel
theorem dX6_countChannels_26 : decode cX6_countChannels 26 = .ok (.aload 5, 2) := by decide +kernel
theorem dX6_countChannels_28 : decode cX6_countChannels 28 = .ok (.getfield 181, 3) := by decide +kernel
theorem dX6_countChannels_31 : decode cX6_countChannels 31 = .ok (.ifCond .eq 7, 3) := by decide +kernel
theorem dX6_countChannels_34 : decode cX6_countChannels 34 = .ok (.iconst 1, 1) := by decide +kernel
theorem dX6_countChannels_35 : decode cX6_countChannels 35 = .ok (.goto 4, 3) := by decide +kernel
theorem dX6_countChannels_38 : decode cX6_countChannels 38 = .ok (.iconst 0, 1) := by decide +kernel
theorem dX6_countChannels_39 : decode cX6_countChannels 39 = .ok (.iadd, 1) := by decide +kernel
theorem dX6_countChannels_40 : decode cX6_countChannels 40 = .ok (.istore_n 1, 1) := by decide +kernel
theorem dX6_countChannels_41 : decode cX6_countChannels 41 = .ok (.iinc 4 1, 3) := by decide +kernel
theorem dX6_countChannels_44 : decode cX6_countChannels 44 = .ok (.goto (-31), 3) := by decide +kernel
theorem dX6_countChannels_47 : decode cX6_countChannels 47 = .ok (.iload_n 1, 1) := by decide +kernel
theorem dX6_countChannels_48 : decode cX6_countChannels 48 = .ok (.ireturn, 1) := by decide +kernel
theorem dX6_countGates_0 : decode cX6_countGates 0 = .ok (.iconst 0, 1) := by decide +kernel
theorem dX6_countGates_1 : decode cX6_countGates 1 = .ok (.istore_n 1, 1) := by decide +kernel
theorem dX6_countGates_2 : decode cX6_countGates 2 = .ok (.aload_n 0, 1) := by decide +kernel
theorem dX6_countGates_3 : decode cX6_countGates 3 = .ok (.getfield 39, 3) := by decide +kernel
theorem dX6_countGates_6 : decode cX6_countGates 6 = .ok (.astore_n 2, 1) := by decide +kernel
theorem dX6_countGates_7 : decode cX6_countGates 7 = .ok (.aload_n 2, 1) := by decide +kernel
theorem dX6_countGates_8 : decode cX6_countGates 8 = .ok (.arraylength, 1) := by decide +kernel
theorem dX6_countGates_9 : decode cX6_countGates 9 = .ok (.istore_n 3, 1) := by decide +kernel
theorem dX6_countGates_10 : decode cX6_countGates 10 = .ok (.iconst 0, 1) := by decide +kernel
theorem dX6_countGates_11 : decode cX6_countGates 11 = .ok (.istore 4, 2) := by decide +kernel
theorem dX6_countGates_13 : decode cX6_countGates 13 = .ok (.iload 4, 2) := by decide +kernel
theorem dX6_countGates_15 : decode cX6_countGates 15 = .ok (.iload_n 3, 1) := by decide +kernel
theorem dX6_countGates_16 : decode cX6_countGates 16 = .ok (.if_icmp .ge 31, 3) := by decide +kernel
theorem dX6_countGates_19 : decode cX6_countGates 19 = .ok (.aload_n 2, 1) := by decide +kernel
theorem dX6_countGates_20 : decode cX6_countGates 20 = .ok (.iload 4, 2) := by decide +kernel
theorem dX6_countGates_22 : decode cX6_countGates 22 = .ok (.aaload, 1) := by decide +kernel
theorem dX6_countGates_23 : decode cX6_countGates 23 = .ok (.astore 5, 2) := by decide +kernel
theorem dX6_countGates_25 : decode cX6_countGates 25 = .ok (.iload_n 1, 1) := by decide +kernel
theorem dX6_countGates_26 : decode cX6_countGates 26 = .ok (.aload 5, 2) := by decide +kernel
theorem dX6_countGates_28 : decode cX6_countGates 28 = .ok (.getfield 227, 3) := by decide +kernel
theorem dX6_countGates_31 : decode cX6_countGates 31 = .ok (.ifCond .eq 7, 3) := by decide +kernel
theorem dX6_countGates_34 : decode cX6_countGates 34 = .ok (.iconst 1, 1) := by decide +kernel
theorem dX6_countGates_35 : decode cX6_countGates 35 = .ok (.goto 4, 3) := by decide +kernel
theorem dX6_countGates_38 : decode cX6_countGates 38 = .ok (.iconst 0, 1) := by decide +kernel
theorem dX6_countGates_39 : decode cX6_countGates 39 = .ok (.iadd, 1) := by decide +kernel
theorem dX6_countGates_40 : decode cX6_countGates 40 = .ok (.istore_n 1, 1) := by decide +kernel
theorem dX6_countGates_41 : decode cX6_countGates 41 = .ok (.iinc 4 1, 3) := by decide +kernel
theorem dX6_countGates_44 : decode cX6_countGates 44 = .ok (.goto (-31), 3) := by decide +kernel
theorem dX6_countGates_47 : decode cX6_countGates 47 = .ok (.iload_n 1, 1) := by decide +kernel
theorem dX6_countGates_48 : decode cX6_countGates 48 = .ok (.ireturn, 1) := by decide +kernel
theorem dX6_outside_0 : decode cX6_outside 0 = .ok (.iload_n 0, 1) := by decide +kernel
theorem dX6_outside_1 : decode cX6_outside 1 = .ok (.iload_n 1, 1) := by decide +kernel
theorem dX6_outside_2 : decode cX6_outside 2 = .ok (.if_icmp .lt 8, 3) := by decide +kernel
theorem dX6_outside_5 : decode cX6_outside 5 = .ok (.iload_n 0, 1) := by decide +kernel
theorem dX6_outside_6 : decode cX6_outside 6 = .ok (.iload_n 2, 1) := by decide +kernel
theorem dX6_outside_7 : decode cX6_outside 7 = .ok (.if_icmp .le 7, 3) := by decide +kernel
theorem dX6_outside_10 : decode cX6_outside 10 = .ok (.iconst 1, 1) := by decide +kernel
theorem dX6_outside_11 : decode cX6_outside 11 = .ok (.goto 4, 3) := by decide +kernel
theorem dX6_outside_14 : decode cX6_outside 14 = .ok (.iconst 0, 1) := by decide +kernel
theorem dX6_outside_15 : decode cX6_outside 15 = .ok (.ireturn, 1) := by decide +kernel
theorem dX6_isNoSignal_0 : decode cX6_isNoSignal 0 = .ok (.iload_n 0, 1) := by decide +kernel
theorem dX6_isNoSignal_1 : decode cX6_isNoSignal 1 = .ok (.iconst 0, 1) := by decide +kernel
theorem dX6_isNoSignal_2 : decode cX6_isNoSignal 2 = .ok (.bipush 11, 2) := by decide +kernel
theorem dX6_isNoSignal_4 : decode cX6_isNoSignal 4 = .ok (.invokestatic 69, 3) := by decide +kernel
theorem dX6_isNoSignal_7 : decode cX6_isNoSignal 7 = .ok (.ireturn, 1) := by decide +kernel
theorem dX6_isNoRow_0 : decode cX6_isNoRow 0 = .ok (.iload_n 0, 1) := by decide +kernel
theorem dX6_isNoRow_1 : decode cX6_isNoRow 1 = .ok (.iconst 0, 1) := by decide +kernel
theorem dX6_isNoRow_2 : decode cX6_isNoRow 2 = .ok (.iconst 1, 1) := by decide +kernel
theorem dX6_isNoRow_3 : decode cX6_isNoRow 3 = .ok (.invokestatic 69, 3) := by decide +kernel
theorem dX6_isNoRow_6 : decode cX6_isNoRow 6 = .ok (.ifCond .ne 10, 3) := by decide +kernel
theorem dX6_isNoRow_9 : decode cX6_isNoRow 9 = .ok (.iload_n 1, 1) := by decide +kernel
theorem dX6_isNoRow_10 : decode cX6_isNoRow 10 = .ok (.invokestatic 117, 3) := by decide +kernel
theorem dX6_isNoRow_13 : decode cX6_isNoRow 13 = .ok (.ifCond .eq 7, 3) := by decide +kernel
theorem dX6_isNoRow_16 : decode cX6_isNoRow 16 = .ok (.iconst 1, 1) := by decide +kernel
theorem dX6_isNoRow_17 : decode cX6_isNoRow 17 = .ok (.goto 4, 3) := by decide +kernel
theorem dX6_isNoRow_20 : decode cX6_isNoRow 20 = .ok (.iconst 0, 1) := by decide +kernel
theorem dX6_isNoRow_21 : decode cX6_isNoRow 21 = .ok (.ireturn, 1) := by decide +kernel
theorem dX6_isNoValue_0 : decode cX6_isNoValue 0 = .ok (.iload_n 0, 1) := by decide +kernel
theorem dX6_isNoValue_1 : decode cX6_isNoValue 1 = .ok (.iconst 0, 1) := by decide +kernel
theorem dX6_isNoValue_2 : decode cX6_isNoValue 2 = .ok (.sipush 256, 3) := by decide +kernel
theorem dX6_isNoValue_5 : decode cX6_isNoValue 5 = .ok (.invokestatic 69, 3) := by decide +kernel
theorem dX6_isNoValue_8 : decode cX6_isNoValue 8 = .ok (.ireturn, 1) := by decide +kernel
theorem dX6_agree_0 : decode cX6_agree 0 = .ok (.iload_n 0, 1) := by decide +kernel
theorem dX6_agree_1 : decode cX6_agree 1 = .ok (.iload_n 1, 1) := by decide +kernel
theorem dX6_agree_2 : decode cX6_agree 2 = .ok (.if_icmp .eq 21, 3) := by decide +kernel
theorem dX6_agree_5 : decode cX6_agree 5 = .ok (.iload_n 2, 1) := by decide +kernel
theorem dX6_agree_6 : decode cX6_agree 6 = .ok (.ifCond .eq 21, 3) := by decide +kernel
theorem dX6_agree_9 : decode cX6_agree 9 = .ok (.iload_n 0, 1) := by decide +kernel
theorem dX6_agree_10 : decode cX6_agree 10 = .ok (.sipush 256, 3) := by decide +kernel
theorem dX6_agree_13 : decode cX6_agree 13 = .ok (.if_icmp .eq 10, 3) := by decide +kernel
theorem dX6_agree_16 : decode cX6_agree 16 = .ok (.iload_n 1, 1) := by decide +kernel
theorem dX6_agree_17 : decode cX6_agree 17 = .ok (.sipush 256, 3) := by decide +kernel
theorem dX6_agree_20 : decode cX6_agree 20 = .ok (.if_icmp .ne 7, 3) := by decide +kernel
theorem dX6_agree_23 : decode cX6_agree 23 = .ok (.iconst 1, 1) := by decide +kernel
theorem dX6_agree_24 : decode cX6_agree 24 = .ok (.goto 4, 3) := by decide +kernel
theorem dX6_agree_27 : decode cX6_agree 27 = .ok (.iconst 0, 1) := by decide +kernel
theorem dX6_agree_28 : decode cX6_agree 28 = .ok (.ireturn, 1) := by decide +kernel
theorem dX6_rowOf_0 : decode cX6_rowOf 0 = .ok (.aload_n 0, 1) := by decide +kernel
theorem dX6_rowOf_1 : decode cX6_rowOf 1 = .ok (.getfield 11, 3) := by decide +kernel
theorem dX6_rowOf_4 : decode cX6_rowOf 4 = .ok (.iload_n 1, 1) := by decide +kernel
theorem dX6_rowOf_5 : decode cX6_rowOf 5 = .ok (.bipush 12, 2) := by decide +kernel
theorem dX6_rowOf_7 : decode cX6_rowOf 7 = .ok (.imul, 1) := by decide +kernel
theorem dX6_rowOf_8 : decode cX6_rowOf 8 = .ok (.iload_n 2, 1) := by decide +kernel
theorem dX6_rowOf_9 : decode cX6_rowOf 9 = .ok (.iadd, 1) := by decide +kernel
theorem dX6_rowOf_10 : decode cX6_rowOf 10 = .ok (.aaload, 1) := by decide +kernel
theorem dX6_rowOf_11 : decode cX6_rowOf 11 = .ok (.areturn, 1) := by decide +kernel
theorem dX6_namedRow_0 : decode cX6_namedRow 0 = .ok (.iload_n 1, 1) := by decide +kernel
theorem dX6_namedRow_1 : decode cX6_namedRow 1 = .ok (.ifCond .ne 12, 3) := by decide +kernel
theorem dX6_namedRow_4 : decode cX6_namedRow 4 = .ok (.aload_n 0, 1) := by decide +kernel
theorem dX6_namedRow_5 : decode cX6_namedRow 5 = .ok (.iconst 0, 1) := by decide +kernel
theorem dX6_namedRow_6 : decode cX6_namedRow 6 = .ok (.iload_n 2, 1) := by decide +kernel
theorem dX6_namedRow_7 : decode cX6_namedRow 7 = .ok (.invokevirtual 77, 3) := by decide +kernel
theorem dX6_namedRow_10 : decode cX6_namedRow 10 = .ok (.goto 14, 3) := by decide +kernel
theorem dX6_namedRow_13 : decode cX6_namedRow 13 = .ok (.aload_n 0, 1) := by decide +kernel
theorem dX6_namedRow_14 : decode cX6_namedRow 14 = .ok (.iconst 1, 1) := by decide +kernel
theorem dX6_namedRow_15 : decode cX6_namedRow 15 = .ok (.aload_n 0, 1) := by decide +kernel
theorem dX6_namedRow_16 : decode cX6_namedRow 16 = .ok (.getfield 15, 3) := by decide +kernel
theorem dX6_namedRow_19 : decode cX6_namedRow 19 = .ok (.iload_n 2, 1) := by decide +kernel
theorem dX6_namedRow_20 : decode cX6_namedRow 20 = .ok (.iaload, 1) := by decide +kernel
theorem dX6_namedRow_21 : decode cX6_namedRow 21 = .ok (.invokevirtual 77, 3) := by decide +kernel
theorem dX6_namedRow_24 : decode cX6_namedRow 24 = .ok (.areturn, 1) := by decide +kernel
end
section
theorem dX7_init_0 : decode cX7_init 0 = .ok (.aload_n 0, 1) := by decide +kernel
theorem dX7_init_1 : decode cX7_init 1 = .ok (.invokespecial 1, 3) := by decide +kernel
theorem dX7_init_4 : decode cX7_init 4 = .ok (.aload_n 0, 1) := by decide +kernel
theorem dX7_init_5 : decode cX7_init 5 = .ok (.sipush 1000, 3) := by decide +kernel
theorem dX7_init_8 : decode cX7_init 8 = .ok (.putfield 7, 3) := by decide +kernel
theorem dX7_init_11 : decode cX7_init 11 = .ok (.aload_n 0, 1) := by decide +kernel
theorem dX7_init_12 : decode cX7_init 12 = .ok (.bipush 24, 2) := by decide +kernel
theorem dX7_init_14 : decode cX7_init 14 = .ok (.newarray .int, 2) := by decide +kernel
theorem dX7_init_16 : decode cX7_init 16 = .ok (.putfield 13, 3) := by decide +kernel
theorem dX7_init_19 : decode cX7_init 19 = .ok (.aload_n 0, 1) := by decide +kernel
theorem dX7_init_20 : decode cX7_init 20 = .ok (.sipush 1200, 3) := by decide +kernel
theorem dX7_init_23 : decode cX7_init 23 = .ok (.newarray .int, 2) := by decide +kernel
theorem dX7_init_25 : decode cX7_init 25 = .ok (.putfield 17, 3) := by decide +kernel
theorem dX7_init_28 : decode cX7_init 28 = .ok (.aload_n 0, 1) := by decide +kernel
theorem dX7_init_29 : decode cX7_init 29 = .ok (.sipush 1200, 3) := by decide +kernel
theorem dX7_init_32 : decode cX7_init 32 = .ok (.newarray .int, 2) := by decide +kernel
theorem dX7_init_34 : decode cX7_init 34 = .ok (.putfield 20, 3) := by decide +kernel
theorem dX7_init_37 : decode cX7_init 37 = .ok (.aload_n 0, 1) := by decide +kernel
theorem dX7_init_38 : decode cX7_init 38 = .ok (.bipush 12, 2) := by decide +kernel
theorem dX7_init_40 : decode cX7_init 40 = .ok (.newarray .int, 2) := by decide +kernel
theorem dX7_init_42 : decode cX7_init 42 = .ok (.putfield 23, 3) := by decide +kernel
theorem dX7_init_45 : decode cX7_init 45 = .ok (.aload_n 0, 1) := by decide +kernel
theorem dX7_init_46 : decode cX7_init 46 = .ok (.bipush 12, 2) := by decide +kernel
theorem dX7_init_48 : decode cX7_init 48 = .ok (.newarray .int, 2) := by decide +kernel
theorem dX7_init_50 : decode cX7_init 50 = .ok (.putfield 26, 3) := by decide +kernel
theorem dX7_init_53 : decode cX7_init 53 = .ok (.aload_n 0, 1) := by decide +kernel
theorem dX7_init_54 : decode cX7_init 54 = .ok (.iconst 4, 1) := by decide +kernel
theorem dX7_init_55 : decode cX7_init 55 = .ok (.newarray .int, 2) := by decide +kernel
theorem dX7_init_57 : decode cX7_init 57 = .ok (.putfield 29, 3) := by decide +kernel
theorem dX7_init_60 : decode cX7_init 60 = .ok (.aload_n 0, 1) := by decide +kernel
theorem dX7_init_61 : decode cX7_init 61 = .ok (.bipush 10, 2) := by decide +kernel
theorem dX7_init_63 : decode cX7_init 63 = .ok (.newarray .int, 2) := by decide +kernel
theorem dX7_init_65 : decode cX7_init 65 = .ok (.putfield 32, 3) := by decide +kernel
theorem dX7_init_68 : decode cX7_init 68 = .ok (.aload_n 0, 1) := by decide +kernel
theorem dX7_init_69 : decode cX7_init 69 = .ok (.bipush 10, 2) := by decide +kernel
theorem dX7_init_71 : decode cX7_init 71 = .ok (.newarray .int, 2) := by decide +kernel
theorem dX7_init_73 : decode cX7_init 73 = .ok (.putfield 35, 3) := by decide +kernel
theorem dX7_init_76 : decode cX7_init 76 = .ok (.aload_n 0, 1) := by decide +kernel
theorem dX7_init_77 : decode cX7_init 77 = .ok (.bipush 10, 2) := by decide +kernel
theorem dX7_init_79 : decode cX7_init 79 = .ok (.newarray .int, 2) := by decide +kernel
theorem dX7_init_81 : decode cX7_init 81 = .ok (.putfield 38, 3) := by decide +kernel
theorem dX7_init_84 : decode cX7_init 84 = .ok (.aload_n 0, 1) := by decide +kernel
theorem dX7_init_85 : decode cX7_init 85 = .ok (.bipush 10, 2) := by decide +kernel
theorem dX7_init_87 : decode cX7_init 87 = .ok (.newarray .int, 2) := by decide +kernel
theorem dX7_init_89 : decode cX7_init 89 = .ok (.putfield 41, 3) := by decide +kernel
theorem dX7_init_92 : decode cX7_init 92 = .ok (.aload_n 0, 1) := by decide +kernel
theorem dX7_init_93 : decode cX7_init 93 = .ok (.iconst 4, 1) := by decide +kernel
theorem dX7_init_94 : decode cX7_init 94 = .ok (.newarray .boolean, 2) := by decide +kernel
theorem dX7_init_96 : decode cX7_init 96 = .ok (.putfield 44, 3) := by decide +kernel
theorem dX7_init_99 : decode cX7_init 99 = .ok (.aload_n 0, 1) := by decide +kernel
theorem dX7_init_100 : decode cX7_init 100 = .ok (.bipush 16, 2) := by decide +kernel
theorem dX7_init_102 : decode cX7_init 102 = .ok (.newarray .int, 2) := by decide +kernel
theorem dX7_init_104 : decode cX7_init 104 = .ok (.putfield 48, 3) := by decide +kernel
theorem dX7_init_107 : decode cX7_init 107 = .ok (.aload_n 0, 1) := by decide +kernel
theorem dX7_init_108 : decode cX7_init 108 = .ok (.bipush 12, 2) := by decide +kernel
theorem dX7_init_110 : decode cX7_init 110 = .ok (.newarray .int, 2) := by decide +kernel
theorem dX7_init_112 : decode cX7_init 112 = .ok (.putfield 51, 3) := by decide +kernel
theorem dX7_init_115 : decode cX7_init 115 = .ok (.aload_n 0, 1) := by decide +kernel
theorem dX7_init_116 : decode cX7_init 116 = .ok (.bipush 12, 2) := by decide +kernel
theorem dX7_init_118 : decode cX7_init 118 = .ok (.newarray .int, 2) := by decide +kernel
theorem dX7_init_120 : decode cX7_init 120 = .ok (.putfield 54, 3) := by decide +kernel
theorem dX7_init_123 : decode cX7_init 123 = .ok (.aload_n 0, 1) := by decide +kernel
theorem dX7_init_124 : decode cX7_init 124 = .ok (.bipush 12, 2) := by decide +kernel
theorem dX7_init_126 : decode cX7_init 126 = .ok (.newarray .int, 2) := by decide +kernel
theorem dX7_init_128 : decode cX7_init 128 = .ok (.putfield 57, 3) := by decide +kernel
theorem dX7_init_131 : decode cX7_init 131 = .ok (.iconst 0, 1) := by decide +kernel
theorem dX7_init_132 : decode cX7_init 132 = .ok (.istore_n 1, 1) := by decide +kernel
theorem dX7_init_133 : decode cX7_init 133 = .ok (.iload_n 1, 1) := by decide +kernel
theorem dX7_init_134 : decode cX7_init 134 = .ok (.bipush 12, 2) := by decide +kernel
theorem dX7_init_136 : decode cX7_init 136 = .ok (.if_icmp .ge 16, 3) := by decide +kernel
theorem dX7_init_139 : decode cX7_init 139 = .ok (.aload_n 0, 1) := by decide +kernel
theorem dX7_init_140 : decode cX7_init 140 = .ok (.getfield 23, 3) := by decide +kernel
theorem dX7_init_143 : decode cX7_init 143 = .ok (.iload_n 1, 1) := by decide +kernel
theorem dX7_init_144 : decode cX7_init 144 = .ok (.iload_n 1, 1) := by decide +kernel
theorem dX7_init_145 : decode cX7_init 145 = .ok (.iastore, 1) := by decide +kernel
theorem dX7_init_146 : decode cX7_init 146 = .ok (.iinc 1 1, 3) := by decide +kernel
theorem dX7_init_149 : decode cX7_init 149 = .ok (.goto (-16), 3) := by decide +kernel
theorem dX7_init_152 : decode cX7_init 152 = .ok (.return_, 1) := by decide +kernel
theorem dX7_in_0 : decode cX7_in 0 = .ok (.iload_n 0, 1) := by decide +kernel
theorem dX7_in_1 : decode cX7_in 1 = .ok (.iload_n 1, 1) := by decide +kernel
theorem dX7_in_2 : decode cX7_in 2 = .ok (.if_icmp .lt 12, 3) := by decide +kernel
theorem dX7_in_5 : decode cX7_in 5 = .ok (.iload_n 0, 1) := by decide +kernel
theorem dX7_in_6 : decode cX7_in 6 = .ok (.iload_n 2, 1) := by decide +kernel
theorem dX7_in_7 : decode cX7_in 7 = .ok (.if_icmp .gt 7, 3) := by decide +kernel
theorem dX7_in_10 : decode cX7_in 10 = .ok (.iconst 1, 1) := by decide +kernel
theorem dX7_in_11 : decode cX7_in 11 = .ok (.goto 4, 3) := by decide +kernel
theorem dX7_in_14 : decode cX7_in 14 = .ok (.iconst 0, 1) := by decide +kernel
theorem dX7_in_15 : decode cX7_in 15 = .ok (.ireturn, 1) := by decide +kernel
theorem dX7_isSignal_0 : decode cX7_isSignal 0 = .ok (.iload_n 0, 1) := by decide +kernel
theorem dX7_isSignal_1 : decode cX7_isSignal 1 = .ok (.iconst 0, 1) := by decide +kernel
theorem dX7_isSignal_2 : decode cX7_isSignal 2 = .ok (.bipush 11, 2) := by decide +kernel
theorem dX7_isSignal_4 : decode cX7_isSignal 4 = .ok (.invokestatic 60, 3) := by decide +kernel
theorem dX7_isSignal_7 : decode cX7_isSignal 7 = .ok (.ireturn, 1) := by decide +kernel
theorem dX7_isRow_0 : decode cX7_isRow 0 = .ok (.iload_n 0, 1) := by decide +kernel
theorem dX7_isRow_1 : decode cX7_isRow 1 = .ok (.iconst 0, 1) := by decide +kernel
theorem dX7_isRow_2 : decode cX7_isRow 2 = .ok (.iconst 1, 1) := by decide +kernel
theorem dX7_isRow_3 : decode cX7_isRow 3 = .ok (.invokestatic 60, 3) := by decide +kernel
theorem dX7_isRow_6 : decode cX7_isRow 6 = .ok (.ifCond .eq 14, 3) := by decide +kernel
theorem dX7_isRow_9 : decode cX7_isRow 9 = .ok (.iload_n 1, 1) := by decide +kernel
theorem dX7_isRow_10 : decode cX7_isRow 10 = .ok (.invokestatic 64, 3) := by decide +kernel
theorem dX7_isRow_13 : decode cX7_isRow 13 = .ok (.ifCond .eq 7, 3) := by decide +kernel
theorem dX7_isRow_16 : decode cX7_isRow 16 = .ok (.iconst 1, 1) := by decide +kernel
theorem dX7_isRow_17 : decode cX7_isRow 17 = .ok (.goto 4, 3) := by decide +kernel
theorem dX7_isRow_20 : decode cX7_isRow 20 = .ok (.iconst 0, 1) := by decide +kernel
theorem dX7_isRow_21 : decode cX7_isRow 21 = .ok (.ireturn, 1) := by decide +kernel
theorem dX7_last_0 : decode cX7_last 0 = .ok (.aload_n 0, 1) := by decide +kernel
theorem dX7_last_1 : decode cX7_last 1 = .ok (.getfield 13, 3) := by decide +kernel
theorem dX7_last_4 : decode cX7_last 4 = .ok (.iload_n 1, 1) := by decide +kernel
theorem dX7_last_5 : decode cX7_last 5 = .ok (.iaload, 1) := by decide +kernel
theorem dX7_last_6 : decode cX7_last 6 = .ok (.ifCond .ne 7, 3) := by decide +kernel
theorem dX7_last_9 : decode cX7_last 9 = .ok (.iconst (-1), 1) := by decide +kernel
theorem dX7_last_10 : decode cX7_last 10 = .ok (.goto 21, 3) := by decide +kernel
theorem dX7_last_13 : decode cX7_last 13 = .ok (.aload_n 0, 1) := by decide +kernel
theorem dX7_last_14 : decode cX7_last 14 = .ok (.getfield 17, 3) := by decide +kernel
theorem dX7_last_17 : decode cX7_last 17 = .ok (.bipush 50, 2) := by decide +kernel
theorem dX7_last_19 : decode cX7_last 19 = .ok (.iload_n 1, 1) := by decide +kernel
theorem dX7_last_20 : decode cX7_last 20 = .ok (.imul, 1) := by decide +kernel
theorem dX7_last_21 : decode cX7_last 21 = .ok (.aload_n 0, 1) := by decide +kernel
theorem dX7_last_22 : decode cX7_last 22 = .ok (.getfield 13, 3) := by decide +kernel
theorem dX7_last_25 : decode cX7_last 25 = .ok (.iload_n 1, 1) := by decide +kernel
theorem dX7_last_26 : decode cX7_last 26 = .ok (.iaload, 1) := by decide +kernel
theorem dX7_last_27 : decode cX7_last 27 = .ok (.iadd, 1) := by decide +kernel
theorem dX7_last_28 : decode cX7_last 28 = .ok (.iconst 1, 1) := by decide +kernel
theorem dX7_last_29 : decode cX7_last 29 = .ok (.isub, 1) := by decide +kernel
theorem dX7_last_30 : decode cX7_last 30 = .ok (.iaload, 1) := by decide +kernel
theorem dX7_last_31 : decode cX7_last 31 = .ok (.ireturn, 1) := by decide +kernel
theorem dX7_lays_0 : decode cX7_lays 0 = .ok (.aload_n 0, 1) := by decide +kernel
theorem dX7_lays_1 : decode cX7_lays 1 = .ok (.getfield 17, 3) := by decide +kernel
theorem dX7_lays_4 : decode cX7_lays 4 = .ok (.bipush 50, 2) := by decide +kernel
theorem dX7_lays_6 : decode cX7_lays 6 = .ok (.iload_n 1, 1) := by decide +kernel
theorem dX7_lays_7 : decode cX7_lays 7 = .ok (.imul, 1) := by decide +kernel
theorem dX7_lays_8 : decode cX7_lays 8 = .ok (.aload_n 0, 1) := by decide +kernel
theorem dX7_lays_9 : decode cX7_lays 9 = .ok (.getfield 13, 3) := by decide +kernel
theorem dX7_lays_12 : decode cX7_lays 12 = .ok (.iload_n 1, 1) := by decide +kernel
theorem dX7_lays_13 : decode cX7_lays 13 = .ok (.iaload, 1) := by decide +kernel
theorem dX7_lays_14 : decode cX7_lays 14 = .ok (.iadd, 1) := by decide +kernel
theorem dX7_lays_15 : decode cX7_lays 15 = .ok (.iload_n 2, 1) := by decide +kernel
theorem dX7_lays_16 : decode cX7_lays 16 = .ok (.iastore, 1) := by decide +kernel
theorem dX7_lays_17 : decode cX7_lays 17 = .ok (.aload_n 0, 1) := by decide +kernel
theorem dX7_lays_18 : decode cX7_lays 18 = .ok (.getfield 20, 3) := by decide +kernel
theorem dX7_lays_21 : decode cX7_lays 21 = .ok (.bipush 50, 2) := by decide +kernel
theorem dX7_lays_23 : decode cX7_lays 23 = .ok (.iload_n 1, 1) := by decide +kernel
theorem dX7_lays_24 : decode cX7_lays 24 = .ok (.imul, 1) := by decide +kernel
theorem dX7_lays_25 : decode cX7_lays 25 = .ok (.aload_n 0, 1) := by decide +kernel
theorem dX7_lays_26 : decode cX7_lays 26 = .ok (.getfield 13, 3) := by decide +kernel
theorem dX7_lays_29 : decode cX7_lays 29 = .ok (.iload_n 1, 1) := by decide +kernel
theorem dX7_lays_30 : decode cX7_lays 30 = .ok (.iaload, 1) := by decide +kernel
theorem dX7_lays_31 : decode cX7_lays 31 = .ok (.iadd, 1) := by decide +kernel
theorem dX7_lays_32 : decode cX7_lays 32 = .ok (.iload_n 3, 1) := by decide +kernel
theorem dX7_lays_33 : decode cX7_lays 33 = .ok (.iastore, 1) := by decide +kernel
theorem dX7_lays_34 : decode cX7_lays 34 = .ok (.aload_n 0, 1) := by decide +kernel
theorem dX7_lays_35 : decode cX7_lays 35 = .ok (.getfield 13, 3) := by decide +kernel
theorem dX7_lays_38 : decode cX7_lays 38 = .ok (.iload_n 1, 1) := by decide +kernel
theorem dX7_lays_39 : decode cX7_lays 39 = .ok (.dup2, 1) := by decide +kernel
theorem dX7_lays_40 : decode cX7_lays 40 = .ok (.iaload, 1) := by decide +kernel
theorem dX7_lays_41 : decode cX7_lays 41 = .ok (.iconst 1, 1) := by decide +kernel
theorem dX7_lays_42 : decode cX7_lays 42 = .ok (.iadd, 1) := by decide +kernel
theorem dX7_lays_43 : decode cX7_lays 43 = .ok (.iastore, 1) := by decide +kernel
theorem dX7_lays_44 : decode cX7_lays 44 = .ok (.return_, 1) := by decide +kernel
theorem dX7_change_0 : decode cX7_change 0 = .ok (.iload_n 1, 1) := by decide +kernel
theorem dX7_change_1 : decode cX7_change 1 = .ok (.iload_n 2, 1) := by decide +kernel
theorem dX7_change_2 : decode cX7_change 2 = .ok (.invokestatic 68, 3) := by decide +kernel
theorem dX7_change_5 : decode cX7_change 5 = .ok (.ifCond .eq 26, 3) := by decide +kernel
theorem dX7_change_8 : decode cX7_change 8 = .ok (.iload_n 3, 1) := by decide +kernel
theorem dX7_change_9 : decode cX7_change 9 = .ok (.iconst 0, 1) := by decide +kernel
theorem dX7_change_10 : decode cX7_change 10 = .ok (.sipush 3999, 3) := by decide +kernel
theorem dX7_change_13 : decode cX7_change 13 = .ok (.invokestatic 60, 3) := by decide +kernel
theorem dX7_change_16 : decode cX7_change 16 = .ok (.ifCond .eq 15, 3) := by decide +kernel
theorem dX7_change_19 : decode cX7_change 19 = .ok (.iload 4, 2) := by decide +kernel
theorem dX7_change_21 : decode cX7_change 21 = .ok (.iconst 0, 1) := by decide +kernel
theorem dX7_change_22 : decode cX7_change 22 = .ok (.sipush 256, 3) := by decide +kernel
theorem dX7_change_25 : decode cX7_change 25 = .ok (.invokestatic 60, 3) := by decide +kernel
theorem dX7_change_28 : decode cX7_change 28 = .ok (.ifCond .ne 5, 3) := by decide +kernel
theorem dX7_change_31 : decode cX7_change 31 = .ok (.iconst (-1), 1) := by decide +kernel
theorem dX7_change_32 : decode cX7_change 32 = .ok (.ireturn, 1) := by decide +kernel
theorem dX7_change_33 : decode cX7_change 33 = .ok (.bipush 12, 2) := by decide +kernel
theorem dX7_change_35 : decode cX7_change 35 = .ok (.iload_n 1, 1) := by decide +kernel
theorem dX7_change_36 : decode cX7_change 36 = .ok (.imul, 1) := by decide +kernel
theorem dX7_change_37 : decode cX7_change 37 = .ok (.iload_n 2, 1) := by decide +kernel
theorem dX7_change_38 : decode cX7_change 38 = .ok (.iadd, 1) := by decide +kernel
theorem dX7_change_39 : decode cX7_change 39 = .ok (.istore 5, 2) := by decide +kernel
theorem dX7_change_41 : decode cX7_change 41 = .ok (.iload_n 3, 1) := by decide +kernel
theorem dX7_change_42 : decode cX7_change 42 = .ok (.aload_n 0, 1) := by decide +kernel
theorem dX7_change_43 : decode cX7_change 43 = .ok (.iload 5, 2) := by decide +kernel
theorem dX7_change_45 : decode cX7_change 45 = .ok (.invokevirtual 72, 3) := by decide +kernel
theorem dX7_change_48 : decode cX7_change 48 = .ok (.if_icmp .gt 6, 3) := by decide +kernel
theorem dX7_change_51 : decode cX7_change 51 = .ok (.bipush (-2), 2) := by decide +kernel
theorem dX7_change_53 : decode cX7_change 53 = .ok (.ireturn, 1) := by decide +kernel
theorem dX7_change_54 : decode cX7_change 54 = .ok (.aload_n 0, 1) := by decide +kernel
theorem dX7_change_55 : decode cX7_change 55 = .ok (.getfield 13, 3) := by decide +kernel
theorem dX7_change_58 : decode cX7_change 58 = .ok (.iload 5, 2) := by decide +kernel
theorem dX7_change_60 : decode cX7_change 60 = .ok (.iaload, 1) := by decide +kernel
theorem dX7_change_61 : decode cX7_change 61 = .ok (.bipush 50, 2) := by decide +kernel
theorem dX7_change_63 : decode cX7_change 63 = .ok (.if_icmp .ne 6, 3) := by decide +kernel
theorem dX7_change_66 : decode cX7_change 66 = .ok (.bipush (-3), 2) := by decide +kernel
theorem dX7_change_68 : decode cX7_change 68 = .ok (.ireturn, 1) := by decide +kernel
theorem dX7_change_69 : decode cX7_change 69 = .ok (.aload_n 0, 1) := by decide +kernel
theorem dX7_change_70 : decode cX7_change 70 = .ok (.iload 5, 2) := by decide +kernel
theorem dX7_change_72 : decode cX7_change 72 = .ok (.iload_n 3, 1) := by decide +kernel
theorem dX7_change_73 : decode cX7_change 73 = .ok (.iload 4, 2) := by decide +kernel
theorem dX7_change_75 : decode cX7_change 75 = .ok (.invokevirtual 76, 3) := by decide +kernel
theorem dX7_change_78 : decode cX7_change 78 = .ok (.aload_n 0, 1) := by decide +kernel
theorem dX7_change_79 : decode cX7_change 79 = .ok (.getfield 13, 3) := by decide +kernel
theorem dX7_change_82 : decode cX7_change 82 = .ok (.iload 5, 2) := by decide +kernel
theorem dX7_change_84 : decode cX7_change 84 = .ok (.iaload, 1) := by decide +kernel
theorem dX7_change_85 : decode cX7_change 85 = .ok (.ireturn, 1) := by decide +kernel
theorem dX7_changes_0 : decode cX7_changes 0 = .ok (.iload_n 1, 1) := by decide +kernel
theorem dX7_changes_1 : decode cX7_changes 1 = .ok (.iload_n 2, 1) := by decide +kernel
theorem dX7_changes_2 : decode cX7_changes 2 = .ok (.invokestatic 68, 3) := by decide +kernel
theorem dX7_changes_5 : decode cX7_changes 5 = .ok (.ifCond .eq 12, 3) := by decide +kernel
theorem dX7_changes_8 : decode cX7_changes 8 = .ok (.iload_n 3, 1) := by decide +kernel
theorem dX7_changes_9 : decode cX7_changes 9 = .ok (.iconst 1, 1) := by decide +kernel
theorem dX7_changes_10 : decode cX7_changes 10 = .ok (.iconst 4, 1) := by decide +kernel
theorem dX7_changes_11 : decode cX7_changes 11 = .ok (.invokestatic 60, 3) := by decide +kernel
theorem dX7_changes_14 : decode cX7_changes 14 = .ok (.ifCond .ne 5, 3) := by decide +kernel
theorem dX7_changes_17 : decode cX7_changes 17 = .ok (.iconst (-1), 1) := by decide +kernel
theorem dX7_changes_18 : decode cX7_changes 18 = .ok (.ireturn, 1) := by decide +kernel
theorem dX7_changes_19 : decode cX7_changes 19 = .ok (.bipush 12, 2) := by decide +kernel
theorem dX7_changes_21 : decode cX7_changes 21 = .ok (.iload_n 1, 1) := by decide +kernel
theorem dX7_changes_22 : decode cX7_changes 22 = .ok (.imul, 1) := by decide +kernel
theorem dX7_changes_23 : decode cX7_changes 23 = .ok (.iload_n 2, 1) := by decide +kernel
theorem dX7_changes_24 : decode cX7_changes 24 = .ok (.iadd, 1) := by decide +kernel
theorem dX7_changes_25 : decode cX7_changes 25 = .ok (.istore 6, 2) := by decide +kernel
theorem dX7_changes_27 : decode cX7_changes 27 = .ok (.aload_n 0, 1) := by decide +kernel
theorem dX7_changes_28 : decode cX7_changes 28 = .ok (.iload 6, 2) := by decide +kernel
theorem dX7_changes_30 : decode cX7_changes 30 = .ok (.invokevirtual 72, 3) := by decide +kernel
theorem dX7_changes_33 : decode cX7_changes 33 = .ok (.istore 7, 2) := by decide +kernel
theorem dX7_changes_35 : decode cX7_changes 35 = .ok (.iload_n 3, 1) := by decide +kernel
theorem dX7_changes_36 : decode cX7_changes 36 = .ok (.iconst 1, 1) := by decide +kernel
theorem dX7_changes_37 : decode cX7_changes 37 = .ok (.isub, 1) := by decide +kernel
theorem dX7_changes_38 : decode cX7_changes 38 = .ok (.istore 8, 2) := by decide +kernel
theorem dX7_changes_40 : decode cX7_changes 40 = .ok (.iload 8, 2) := by decide +kernel
theorem dX7_changes_42 : decode cX7_changes 42 = .ok (.ifCond .lt 64, 3) := by decide +kernel
theorem dX7_changes_45 : decode cX7_changes 45 = .ok (.lload 4, 2) := by decide +kernel
theorem dX7_changes_47 : decode cX7_changes 47 = .ok (.bipush 16, 2) := by decide +kernel
theorem dX7_changes_49 : decode cX7_changes 49 = .ok (.iload 8, 2) := by decide +kernel
theorem dX7_changes_51 : decode cX7_changes 51 = .ok (.imul, 1) := by decide +kernel
theorem dX7_changes_52 : decode cX7_changes 52 = .ok (.lshr, 1) := by decide +kernel
theorem dX7_changes_53 : decode cX7_changes 53 = .ok (.ldc2_w 80, 3) := by decide +kernel
theorem dX7_changes_56 : decode cX7_changes 56 = .ok (.land, 1) := by decide +kernel
theorem dX7_changes_57 : decode cX7_changes 57 = .ok (.l2i, 1) := by decide +kernel
theorem dX7_changes_58 : decode cX7_changes 58 = .ok (.istore 9, 2) := by decide +kernel
theorem dX7_changes_60 : decode cX7_changes 60 = .ok (.iload 7, 2) := by decide +kernel
theorem dX7_changes_62 : decode cX7_changes 62 = .ok (.iload 9, 2) := by decide +kernel
theorem dX7_changes_64 : decode cX7_changes 64 = .ok (.bipush 9, 2) := by decide +kernel
theorem dX7_changes_66 : decode cX7_changes 66 = .ok (.ishr, 1) := by decide +kernel
theorem dX7_changes_67 : decode cX7_changes 67 = .ok (.iadd, 1) := by decide +kernel
theorem dX7_changes_68 : decode cX7_changes 68 = .ok (.istore 7, 2) := by decide +kernel
theorem dX7_changes_70 : decode cX7_changes 70 = .ok (.iload 9, 2) := by decide +kernel
theorem dX7_changes_72 : decode cX7_changes 72 = .ok (.bipush 9, 2) := by decide +kernel
theorem dX7_changes_74 : decode cX7_changes 74 = .ok (.ishr, 1) := by decide +kernel
theorem dX7_changes_75 : decode cX7_changes 75 = .ok (.ifCond .eq 23, 3) := by decide +kernel
theorem dX7_changes_78 : decode cX7_changes 78 = .ok (.iload 9, 2) := by decide +kernel
theorem dX7_changes_80 : decode cX7_changes 80 = .ok (.sipush 511, 3) := by decide +kernel
theorem dX7_changes_83 : decode cX7_changes 83 = .ok (.iand, 1) := by decide +kernel
theorem dX7_changes_84 : decode cX7_changes 84 = .ok (.sipush 256, 3) := by decide +kernel
theorem dX7_changes_87 : decode cX7_changes 87 = .ok (.if_icmp .gt 11, 3) := by decide +kernel
theorem dX7_changes_90 : decode cX7_changes 90 = .ok (.iload 7, 2) := by decide +kernel
theorem dX7_changes_92 : decode cX7_changes 92 = .ok (.sipush 3999, 3) := by decide +kernel
theorem dX7_changes_95 : decode cX7_changes 95 = .ok (.if_icmp .le 5, 3) := by decide +kernel
theorem dX7_changes_98 : decode cX7_changes 98 = .ok (.iconst (-1), 1) := by decide +kernel
theorem dX7_changes_99 : decode cX7_changes 99 = .ok (.ireturn, 1) := by decide +kernel
theorem dX7_changes_100 : decode cX7_changes 100 = .ok (.iinc 8 (-1), 3) := by decide +kernel
theorem dX7_changes_103 : decode cX7_changes 103 = .ok (.goto (-63), 3) := by decide +kernel
theorem dX7_changes_106 : decode cX7_changes 106 = .ok (.aload_n 0, 1) := by decide +kernel
theorem dX7_changes_107 : decode cX7_changes 107 = .ok (.getfield 13, 3) := by decide +kernel
theorem dX7_changes_110 : decode cX7_changes 110 = .ok (.iload 6, 2) := by decide +kernel
theorem dX7_changes_112 : decode cX7_changes 112 = .ok (.iaload, 1) := by decide +kernel
theorem dX7_changes_113 : decode cX7_changes 113 = .ok (.iload_n 3, 1) := by decide +kernel
theorem dX7_changes_114 : decode cX7_changes 114 = .ok (.iadd, 1) := by decide +kernel
theorem dX7_changes_115 : decode cX7_changes 115 = .ok (.bipush 50, 2) := by decide +kernel
theorem dX7_changes_117 : decode cX7_changes 117 = .ok (.if_icmp .le 6, 3) := by decide +kernel
theorem dX7_changes_120 : decode cX7_changes 120 = .ok (.bipush (-3), 2) := by decide +kernel
theorem dX7_changes_122 : decode cX7_changes 122 = .ok (.ireturn, 1) := by decide +kernel
theorem dX7_changes_123 : decode cX7_changes 123 = .ok (.iload_n 3, 1) := by decide +kernel
theorem dX7_changes_124 : decode cX7_changes 124 = .ok (.iconst 1, 1) := by decide +kernel
theorem dX7_changes_125 : decode cX7_changes 125 = .ok (.isub, 1) := by decide +kernel
theorem dX7_changes_126 : decode cX7_changes 126 = .ok (.istore 8, 2) := by decide +kernel
theorem dX7_changes_128 : decode cX7_changes 128 = .ok (.iload 8, 2) := by decide +kernel
theorem dX7_changes_130 : decode cX7_changes 130 = .ok (.ifCond .lt 48, 3) := by decide +kernel
theorem dX7_changes_133 : decode cX7_changes 133 = .ok (.lload 4, 2) := by decide +kernel
theorem dX7_changes_135 : decode cX7_changes 135 = .ok (.bipush 16, 2) := by decide +kernel
theorem dX7_changes_137 : decode cX7_changes 137 = .ok (.iload 8, 2) := by decide +kernel
theorem dX7_changes_139 : decode cX7_changes 139 = .ok (.imul, 1) := by decide +kernel
theorem dX7_changes_140 : decode cX7_changes 140 = .ok (.lshr, 1) := by decide +kernel
theorem dX7_changes_141 : decode cX7_changes 141 = .ok (.ldc2_w 80, 3) := by decide +kernel
theorem dX7_changes_144 : decode cX7_changes 144 = .ok (.land, 1) := by decide +kernel
theorem dX7_changes_145 : decode cX7_changes 145 = .ok (.l2i, 1) := by decide +kernel
theorem dX7_changes_146 : decode cX7_changes 146 = .ok (.istore 9, 2) := by decide +kernel
theorem dX7_changes_148 : decode cX7_changes 148 = .ok (.aload_n 0, 1) := by decide +kernel
theorem dX7_changes_149 : decode cX7_changes 149 = .ok (.iload 6, 2) := by decide +kernel
theorem dX7_changes_151 : decode cX7_changes 151 = .ok (.aload_n 0, 1) := by decide +kernel
theorem dX7_changes_152 : decode cX7_changes 152 = .ok (.iload 6, 2) := by decide +kernel
theorem dX7_changes_154 : decode cX7_changes 154 = .ok (.invokevirtual 72, 3) := by decide +kernel
theorem dX7_changes_157 : decode cX7_changes 157 = .ok (.iload 9, 2) := by decide +kernel
theorem dX7_changes_159 : decode cX7_changes 159 = .ok (.bipush 9, 2) := by decide +kernel
theorem dX7_changes_161 : decode cX7_changes 161 = .ok (.ishr, 1) := by decide +kernel
theorem dX7_changes_162 : decode cX7_changes 162 = .ok (.iadd, 1) := by decide +kernel
theorem dX7_changes_163 : decode cX7_changes 163 = .ok (.iload 9, 2) := by decide +kernel
theorem dX7_changes_165 : decode cX7_changes 165 = .ok (.sipush 511, 3) := by decide +kernel
theorem dX7_changes_168 : decode cX7_changes 168 = .ok (.iand, 1) := by decide +kernel
theorem dX7_changes_169 : decode cX7_changes 169 = .ok (.invokevirtual 76, 3) := by decide +kernel
theorem dX7_changes_172 : decode cX7_changes 172 = .ok (.iinc 8 (-1), 3) := by decide +kernel
theorem dX7_changes_175 : decode cX7_changes 175 = .ok (.goto (-47), 3) := by decide +kernel
theorem dX7_changes_178 : decode cX7_changes 178 = .ok (.aload_n 0, 1) := by decide +kernel
theorem dX7_changes_179 : decode cX7_changes 179 = .ok (.getfield 13, 3) := by decide +kernel
theorem dX7_changes_182 : decode cX7_changes 182 = .ok (.iload 6, 2) := by decide +kernel
theorem dX7_changes_184 : decode cX7_changes 184 = .ok (.iaload, 1) := by decide +kernel
theorem dX7_changes_185 : decode cX7_changes 185 = .ok (.ireturn, 1) := by decide +kernel
theorem dX7_cut_0 : decode cX7_cut 0 = .ok (.iload_n 1, 1) := by decide +kernel
theorem dX7_cut_1 : decode cX7_cut 1 = .ok (.iload_n 2, 1) := by decide +kernel
theorem dX7_cut_2 : decode cX7_cut 2 = .ok (.invokestatic 68, 3) := by decide +kernel
theorem dX7_cut_5 : decode cX7_cut 5 = .ok (.ifCond .eq 14, 3) := by decide +kernel
theorem dX7_cut_8 : decode cX7_cut 8 = .ok (.iload_n 3, 1) := by decide +kernel
theorem dX7_cut_9 : decode cX7_cut 9 = .ok (.iconst 0, 1) := by decide +kernel
theorem dX7_cut_10 : decode cX7_cut 10 = .ok (.sipush 3999, 3) := by decide +kernel
theorem dX7_cut_13 : decode cX7_cut 13 = .ok (.invokestatic 60, 3) := by decide +kernel
theorem dX7_cut_16 : decode cX7_cut 16 = .ok (.ifCond .ne 5, 3) := by decide +kernel
theorem dX7_cut_19 : decode cX7_cut 19 = .ok (.iconst (-1), 1) := by decide +kernel
theorem dX7_cut_20 : decode cX7_cut 20 = .ok (.ireturn, 1) := by decide +kernel
theorem dX7_cut_21 : decode cX7_cut 21 = .ok (.bipush 12, 2) := by decide +kernel
theorem dX7_cut_23 : decode cX7_cut 23 = .ok (.iload_n 1, 1) := by decide +kernel
theorem dX7_cut_24 : decode cX7_cut 24 = .ok (.imul, 1) := by decide +kernel
theorem dX7_cut_25 : decode cX7_cut 25 = .ok (.iload_n 2, 1) := by decide +kernel
theorem dX7_cut_26 : decode cX7_cut 26 = .ok (.iadd, 1) := by decide +kernel
theorem dX7_cut_27 : decode cX7_cut 27 = .ok (.istore 4, 2) := by decide +kernel
theorem dX7_cut_29 : decode cX7_cut 29 = .ok (.aload_n 0, 1) := by decide +kernel
theorem dX7_cut_30 : decode cX7_cut 30 = .ok (.getfield 13, 3) := by decide +kernel
theorem dX7_cut_33 : decode cX7_cut 33 = .ok (.iload 4, 2) := by decide +kernel
theorem dX7_cut_35 : decode cX7_cut 35 = .ok (.iaload, 1) := by decide +kernel
theorem dX7_cut_36 : decode cX7_cut 36 = .ok (.istore 5, 2) := by decide +kernel
theorem dX7_cut_38 : decode cX7_cut 38 = .ok (.aload_n 0, 1) := by decide +kernel
theorem dX7_cut_39 : decode cX7_cut 39 = .ok (.iload 4, 2) := by decide +kernel
theorem dX7_cut_41 : decode cX7_cut 41 = .ok (.invokevirtual 72, 3) := by decide +kernel
theorem dX7_cut_44 : decode cX7_cut 44 = .ok (.iload_n 3, 1) := by decide +kernel
theorem dX7_cut_45 : decode cX7_cut 45 = .ok (.if_icmp .lt 17, 3) := by decide +kernel
theorem dX7_cut_48 : decode cX7_cut 48 = .ok (.aload_n 0, 1) := by decide +kernel
theorem dX7_cut_49 : decode cX7_cut 49 = .ok (.getfield 13, 3) := by decide +kernel
theorem dX7_cut_52 : decode cX7_cut 52 = .ok (.iload 4, 2) := by decide +kernel
theorem dX7_cut_54 : decode cX7_cut 54 = .ok (.dup2, 1) := by decide +kernel
theorem dX7_cut_55 : decode cX7_cut 55 = .ok (.iaload, 1) := by decide +kernel
theorem dX7_cut_56 : decode cX7_cut 56 = .ok (.iconst 1, 1) := by decide +kernel
theorem dX7_cut_57 : decode cX7_cut 57 = .ok (.isub, 1) := by decide +kernel
theorem dX7_cut_58 : decode cX7_cut 58 = .ok (.iastore, 1) := by decide +kernel
theorem dX7_cut_59 : decode cX7_cut 59 = .ok (.goto (-21), 3) := by decide +kernel
theorem dX7_cut_62 : decode cX7_cut 62 = .ok (.iload 5, 2) := by decide +kernel
theorem dX7_cut_64 : decode cX7_cut 64 = .ok (.aload_n 0, 1) := by decide +kernel
theorem dX7_cut_65 : decode cX7_cut 65 = .ok (.getfield 13, 3) := by decide +kernel
theorem dX7_cut_68 : decode cX7_cut 68 = .ok (.iload 4, 2) := by decide +kernel
theorem dX7_cut_70 : decode cX7_cut 70 = .ok (.iaload, 1) := by decide +kernel
theorem dX7_cut_71 : decode cX7_cut 71 = .ok (.isub, 1) := by decide +kernel
theorem dX7_cut_72 : decode cX7_cut 72 = .ok (.ireturn, 1) := by decide +kernel
theorem dX7_at_0 : decode cX7_at 0 = .ok (.bipush 12, 2) := by decide +kernel
theorem dX7_at_2 : decode cX7_at 2 = .ok (.iload_n 1, 1) := by decide +kernel
theorem dX7_at_3 : decode cX7_at 3 = .ok (.imul, 1) := by decide +kernel
theorem dX7_at_4 : decode cX7_at 4 = .ok (.iload_n 2, 1) := by decide +kernel
theorem dX7_at_5 : decode cX7_at 5 = .ok (.iadd, 1) := by decide +kernel
theorem dX7_at_6 : decode cX7_at 6 = .ok (.istore 4, 2) := by decide +kernel
theorem dX7_at_8 : decode cX7_at 8 = .ok (.sipush 256, 3) := by decide +kernel
theorem dX7_at_11 : decode cX7_at 11 = .ok (.istore 5, 2) := by decide +kernel
theorem dX7_at_13 : decode cX7_at 13 = .ok (.bipush 50, 2) := by decide +kernel
theorem dX7_at_15 : decode cX7_at 15 = .ok (.iload 4, 2) := by decide +kernel
theorem dX7_at_17 : decode cX7_at 17 = .ok (.imul, 1) := by decide +kernel
theorem dX7_at_18 : decode cX7_at 18 = .ok (.istore 6, 2) := by decide +kernel
theorem dX7_at_20 : decode cX7_at 20 = .ok (.iload 6, 2) := by decide +kernel
theorem dX7_at_22 : decode cX7_at 22 = .ok (.bipush 50, 2) := by decide +kernel
theorem dX7_at_24 : decode cX7_at 24 = .ok (.iload 4, 2) := by decide +kernel
theorem dX7_at_26 : decode cX7_at 26 = .ok (.imul, 1) := by decide +kernel
theorem dX7_at_27 : decode cX7_at 27 = .ok (.aload_n 0, 1) := by decide +kernel
theorem dX7_at_28 : decode cX7_at 28 = .ok (.getfield 13, 3) := by decide +kernel
theorem dX7_at_31 : decode cX7_at 31 = .ok (.iload 4, 2) := by decide +kernel
theorem dX7_at_33 : decode cX7_at 33 = .ok (.iaload, 1) := by decide +kernel
theorem dX7_at_34 : decode cX7_at 34 = .ok (.iadd, 1) := by decide +kernel
theorem dX7_at_35 : decode cX7_at 35 = .ok (.if_icmp .ge 29, 3) := by decide +kernel
theorem dX7_at_38 : decode cX7_at 38 = .ok (.aload_n 0, 1) := by decide +kernel
theorem dX7_at_39 : decode cX7_at 39 = .ok (.getfield 17, 3) := by decide +kernel
theorem dX7_at_42 : decode cX7_at 42 = .ok (.iload 6, 2) := by decide +kernel
theorem dX7_at_44 : decode cX7_at 44 = .ok (.iaload, 1) := by decide +kernel
theorem dX7_at_45 : decode cX7_at 45 = .ok (.iload_n 3, 1) := by decide +kernel
theorem dX7_at_46 : decode cX7_at 46 = .ok (.if_icmp .gt 18, 3) := by decide +kernel
theorem dX7_at_49 : decode cX7_at 49 = .ok (.aload_n 0, 1) := by decide +kernel
theorem dX7_at_50 : decode cX7_at 50 = .ok (.getfield 20, 3) := by decide +kernel
theorem dX7_at_53 : decode cX7_at 53 = .ok (.iload 6, 2) := by decide +kernel
theorem dX7_at_55 : decode cX7_at 55 = .ok (.iaload, 1) := by decide +kernel
theorem dX7_at_56 : decode cX7_at 56 = .ok (.istore 5, 2) := by decide +kernel
theorem dX7_at_58 : decode cX7_at 58 = .ok (.iinc 6 1, 3) := by decide +kernel
theorem dX7_at_61 : decode cX7_at 61 = .ok (.goto (-41), 3) := by decide +kernel
theorem dX7_at_64 : decode cX7_at 64 = .ok (.iload 5, 2) := by decide +kernel
theorem dX7_at_66 : decode cX7_at 66 = .ok (.ireturn, 1) := by decide +kernel
theorem dX7_nextChange_0 : decode cX7_nextChange 0 = .ok (.bipush 12, 2) := by decide +kernel
theorem dX7_nextChange_2 : decode cX7_nextChange 2 = .ok (.iload_n 1, 1) := by decide +kernel
theorem dX7_nextChange_3 : decode cX7_nextChange 3 = .ok (.imul, 1) := by decide +kernel
theorem dX7_nextChange_4 : decode cX7_nextChange 4 = .ok (.iload_n 2, 1) := by decide +kernel
theorem dX7_nextChange_5 : decode cX7_nextChange 5 = .ok (.iadd, 1) := by decide +kernel
theorem dX7_nextChange_6 : decode cX7_nextChange 6 = .ok (.istore 4, 2) := by decide +kernel
theorem dX7_nextChange_8 : decode cX7_nextChange 8 = .ok (.bipush 50, 2) := by decide +kernel
theorem dX7_nextChange_10 : decode cX7_nextChange 10 = .ok (.iload 4, 2) := by decide +kernel
theorem dX7_nextChange_12 : decode cX7_nextChange 12 = .ok (.imul, 1) := by decide +kernel
theorem dX7_nextChange_13 : decode cX7_nextChange 13 = .ok (.istore 5, 2) := by decide +kernel
theorem dX7_nextChange_15 : decode cX7_nextChange 15 = .ok (.iload 5, 2) := by decide +kernel
theorem dX7_nextChange_17 : decode cX7_nextChange 17 = .ok (.bipush 50, 2) := by decide +kernel
theorem dX7_nextChange_19 : decode cX7_nextChange 19 = .ok (.iload 4, 2) := by decide +kernel
theorem dX7_nextChange_21 : decode cX7_nextChange 21 = .ok (.imul, 1) := by decide +kernel
theorem dX7_nextChange_22 : decode cX7_nextChange 22 = .ok (.aload_n 0, 1) := by decide +kernel
theorem dX7_nextChange_23 : decode cX7_nextChange 23 = .ok (.getfield 13, 3) := by decide +kernel
theorem dX7_nextChange_26 : decode cX7_nextChange 26 = .ok (.iload 4, 2) := by decide +kernel
theorem dX7_nextChange_28 : decode cX7_nextChange 28 = .ok (.iaload, 1) := by decide +kernel
theorem dX7_nextChange_29 : decode cX7_nextChange 29 = .ok (.iadd, 1) := by decide +kernel
theorem dX7_nextChange_30 : decode cX7_nextChange 30 = .ok (.if_icmp .ge 28, 3) := by decide +kernel
theorem dX7_nextChange_33 : decode cX7_nextChange 33 = .ok (.aload_n 0, 1) := by decide +kernel
theorem dX7_nextChange_34 : decode cX7_nextChange 34 = .ok (.getfield 17, 3) := by decide +kernel
theorem dX7_nextChange_37 : decode cX7_nextChange 37 = .ok (.iload 5, 2) := by decide +kernel
theorem dX7_nextChange_39 : decode cX7_nextChange 39 = .ok (.iaload, 1) := by decide +kernel
theorem dX7_nextChange_40 : decode cX7_nextChange 40 = .ok (.iload_n 3, 1) := by decide +kernel
theorem dX7_nextChange_41 : decode cX7_nextChange 41 = .ok (.if_icmp .le 11, 3) := by decide +kernel
theorem dX7_nextChange_44 : decode cX7_nextChange 44 = .ok (.aload_n 0, 1) := by decide +kernel
theorem dX7_nextChange_45 : decode cX7_nextChange 45 = .ok (.getfield 17, 3) := by decide +kernel
theorem dX7_nextChange_48 : decode cX7_nextChange 48 = .ok (.iload 5, 2) := by decide +kernel
theorem dX7_nextChange_50 : decode cX7_nextChange 50 = .ok (.iaload, 1) := by decide +kernel
theorem dX7_nextChange_51 : decode cX7_nextChange 51 = .ok (.ireturn, 1) := by decide +kernel
theorem dX7_nextChange_52 : decode cX7_nextChange 52 = .ok (.iinc 5 1, 3) := by decide +kernel
theorem dX7_nextChange_55 : decode cX7_nextChange 55 = .ok (.goto (-40), 3) := by decide +kernel
theorem dX7_nextChange_58 : decode cX7_nextChange 58 = .ok (.ldc 82, 2) := by decide +kernel
theorem dX7_nextChange_60 : decode cX7_nextChange 60 = .ok (.ireturn, 1) := by decide +kernel
theorem dX7_value_0 : decode cX7_value 0 = .ok (.iload_n 1, 1) := by decide +kernel
theorem dX7_value_1 : decode cX7_value 1 = .ok (.iload_n 2, 1) := by decide +kernel
theorem dX7_value_2 : decode cX7_value 2 = .ok (.invokestatic 68, 3) := by decide +kernel
theorem dX7_value_5 : decode cX7_value 5 = .ok (.ifCond .eq 24, 3) := by decide +kernel
theorem dX7_value_8 : decode cX7_value 8 = .ok (.iload_n 3, 1) := by decide +kernel
theorem dX7_value_9 : decode cX7_value 9 = .ok (.iconst 0, 1) := by decide +kernel
theorem dX7_value_10 : decode cX7_value 10 = .ok (.sipush 3999, 3) := by decide +kernel
theorem dX7_value_13 : decode cX7_value 13 = .ok (.invokestatic 60, 3) := by decide +kernel
theorem dX7_value_16 : decode cX7_value 16 = .ok (.ifCond .eq 13, 3) := by decide +kernel
theorem dX7_value_19 : decode cX7_value 19 = .ok (.aload_n 0, 1) := by decide +kernel
theorem dX7_value_20 : decode cX7_value 20 = .ok (.iload_n 1, 1) := by decide +kernel
theorem dX7_value_21 : decode cX7_value 21 = .ok (.iload_n 2, 1) := by decide +kernel
theorem dX7_value_22 : decode cX7_value 22 = .ok (.iload_n 3, 1) := by decide +kernel
theorem dX7_value_23 : decode cX7_value 23 = .ok (.invokevirtual 83, 3) := by decide +kernel
theorem dX7_value_26 : decode cX7_value 26 = .ok (.goto 4, 3) := by decide +kernel
theorem dX7_value_29 : decode cX7_value 29 = .ok (.iconst (-1), 1) := by decide +kernel
theorem dX7_value_30 : decode cX7_value 30 = .ok (.ireturn, 1) := by decide +kernel
theorem dX7_rule_0 : decode cX7_rule 0 = .ok (.iload_n 1, 1) := by decide +kernel
theorem dX7_rule_1 : decode cX7_rule 1 = .ok (.iconst 0, 1) := by decide +kernel
theorem dX7_rule_2 : decode cX7_rule 2 = .ok (.iconst 1, 1) := by decide +kernel
theorem dX7_rule_3 : decode cX7_rule 3 = .ok (.invokestatic 60, 3) := by decide +kernel
theorem dX7_rule_6 : decode cX7_rule 6 = .ok (.ifCond .eq 30, 3) := by decide +kernel
theorem dX7_rule_9 : decode cX7_rule 9 = .ok (.iload_n 2, 1) := by decide +kernel
theorem dX7_rule_10 : decode cX7_rule 10 = .ok (.iload_n 1, 1) := by decide +kernel
theorem dX7_rule_11 : decode cX7_rule 11 = .ok (.ifCond .ne 7, 3) := by decide +kernel
theorem dX7_rule_14 : decode cX7_rule 14 = .ok (.iconst 1, 1) := by decide +kernel
theorem dX7_rule_15 : decode cX7_rule 15 = .ok (.goto 4, 3) := by decide +kernel
theorem dX7_rule_18 : decode cX7_rule 18 = .ok (.iconst 0, 1) := by decide +kernel
theorem dX7_rule_19 : decode cX7_rule 19 = .ok (.iload_n 1, 1) := by decide +kernel
theorem dX7_rule_20 : decode cX7_rule 20 = .ok (.ifCond .ne 9, 3) := by decide +kernel
theorem dX7_rule_23 : decode cX7_rule 23 = .ok (.sipush 4000, 3) := by decide +kernel
theorem dX7_rule_26 : decode cX7_rule 26 = .ok (.goto 4, 3) := by decide +kernel
theorem dX7_rule_29 : decode cX7_rule 29 = .ok (.iconst 1, 1) := by decide +kernel
theorem dX7_rule_30 : decode cX7_rule 30 = .ok (.invokestatic 60, 3) := by decide +kernel
theorem dX7_rule_33 : decode cX7_rule 33 = .ok (.ifCond .ne 5, 3) := by decide +kernel
theorem dX7_rule_36 : decode cX7_rule 36 = .ok (.iconst (-1), 1) := by decide +kernel
theorem dX7_rule_37 : decode cX7_rule 37 = .ok (.ireturn, 1) := by decide +kernel
theorem dX7_rule_38 : decode cX7_rule 38 = .ok (.iload_n 1, 1) := by decide +kernel
theorem dX7_rule_39 : decode cX7_rule 39 = .ok (.ifCond .ne 10, 3) := by decide +kernel
theorem dX7_rule_42 : decode cX7_rule 42 = .ok (.aload_n 0, 1) := by decide +kernel
theorem dX7_rule_43 : decode cX7_rule 43 = .ok (.getfield 7, 3) := by decide +kernel
theorem dX7_rule_46 : decode cX7_rule 46 = .ok (.goto 7, 3) := by decide +kernel
theorem dX7_rule_49 : decode cX7_rule 49 = .ok (.aload_n 0, 1) := by decide +kernel
theorem dX7_rule_50 : decode cX7_rule 50 = .ok (.getfield 87, 3) := by decide +kernel
theorem dX7_rule_53 : decode cX7_rule 53 = .ok (.istore_n 3, 1) := by decide +kernel
theorem dX7_rule_54 : decode cX7_rule 54 = .ok (.aload_n 0, 1) := by decide +kernel
theorem dX7_rule_55 : decode cX7_rule 55 = .ok (.iload_n 1, 1) := by decide +kernel
theorem dX7_rule_56 : decode cX7_rule 56 = .ok (.ifCond .ne 7, 3) := by decide +kernel
theorem dX7_rule_59 : decode cX7_rule 59 = .ok (.iload_n 2, 1) := by decide +kernel
theorem dX7_rule_60 : decode cX7_rule 60 = .ok (.goto 7, 3) := by decide +kernel
theorem dX7_rule_63 : decode cX7_rule 63 = .ok (.aload_n 0, 1) := by decide +kernel
theorem dX7_rule_64 : decode cX7_rule 64 = .ok (.getfield 7, 3) := by decide +kernel
theorem dX7_rule_67 : decode cX7_rule 67 = .ok (.putfield 7, 3) := by decide +kernel
theorem dX7_rule_70 : decode cX7_rule 70 = .ok (.aload_n 0, 1) := by decide +kernel
theorem dX7_rule_71 : decode cX7_rule 71 = .ok (.iload_n 1, 1) := by decide +kernel
theorem dX7_rule_72 : decode cX7_rule 72 = .ok (.iconst 1, 1) := by decide +kernel
theorem dX7_rule_73 : decode cX7_rule 73 = .ok (.if_icmp .ne 7, 3) := by decide +kernel
theorem dX7_rule_76 : decode cX7_rule 76 = .ok (.iload_n 2, 1) := by decide +kernel
theorem dX7_rule_77 : decode cX7_rule 77 = .ok (.goto 7, 3) := by decide +kernel
theorem dX7_rule_80 : decode cX7_rule 80 = .ok (.aload_n 0, 1) := by decide +kernel
theorem dX7_rule_81 : decode cX7_rule 81 = .ok (.getfield 87, 3) := by decide +kernel
theorem dX7_rule_84 : decode cX7_rule 84 = .ok (.putfield 87, 3) := by decide +kernel
theorem dX7_rule_87 : decode cX7_rule 87 = .ok (.iload_n 3, 1) := by decide +kernel
theorem dX7_rule_88 : decode cX7_rule 88 = .ok (.ireturn, 1) := by decide +kernel
theorem dX7_call_0 : decode cX7_call 0 = .ok (.iload_n 1, 1) := by decide +kernel
theorem dX7_call_1 : decode cX7_call 1 = .ok (.invokestatic 64, 3) := by decide +kernel
theorem dX7_call_4 : decode cX7_call 4 = .ok (.ifCond .eq 30, 3) := by decide +kernel
theorem dX7_call_7 : decode cX7_call 7 = .ok (.iload_n 2, 1) := by decide +kernel
theorem dX7_call_8 : decode cX7_call 8 = .ok (.iconst 0, 1) := by decide +kernel
theorem dX7_call_9 : decode cX7_call 9 = .ok (.iconst 1, 1) := by decide +kernel
theorem dX7_call_10 : decode cX7_call 10 = .ok (.invokestatic 60, 3) := by decide +kernel
theorem dX7_call_13 : decode cX7_call 13 = .ok (.ifCond .eq 21, 3) := by decide +kernel
theorem dX7_call_16 : decode cX7_call 16 = .ok (.iload_n 3, 1) := by decide +kernel
theorem dX7_call_17 : decode cX7_call 17 = .ok (.iconst 0, 1) := by decide +kernel
theorem dX7_call_18 : decode cX7_call 18 = .ok (.iload_n 2, 1) := by decide +kernel
theorem dX7_call_19 : decode cX7_call 19 = .ok (.ifCond .ne 8, 3) := by decide +kernel
theorem dX7_call_22 : decode cX7_call 22 = .ok (.bipush 11, 2) := by decide +kernel
theorem dX7_call_24 : decode cX7_call 24 = .ok (.goto 4, 3) := by decide +kernel
theorem dX7_call_27 : decode cX7_call 27 = .ok (.iconst 3, 1) := by decide +kernel
theorem dX7_call_28 : decode cX7_call 28 = .ok (.invokestatic 60, 3) := by decide +kernel
theorem dX7_call_31 : decode cX7_call 31 = .ok (.ifCond .ne 5, 3) := by decide +kernel
theorem dX7_call_34 : decode cX7_call 34 = .ok (.iconst (-1), 1) := by decide +kernel
theorem dX7_call_35 : decode cX7_call 35 = .ok (.ireturn, 1) := by decide +kernel
theorem dX7_call_36 : decode cX7_call 36 = .ok (.iload_n 2, 1) := by decide +kernel
theorem dX7_call_37 : decode cX7_call 37 = .ok (.ifCond .ne 12, 3) := by decide +kernel
theorem dX7_call_40 : decode cX7_call 40 = .ok (.aload_n 0, 1) := by decide +kernel
theorem dX7_call_41 : decode cX7_call 41 = .ok (.getfield 23, 3) := by decide +kernel
theorem dX7_call_44 : decode cX7_call 44 = .ok (.iload_n 1, 1) := by decide +kernel
theorem dX7_call_45 : decode cX7_call 45 = .ok (.iaload, 1) := by decide +kernel
theorem dX7_call_46 : decode cX7_call 46 = .ok (.goto 9, 3) := by decide +kernel
theorem dX7_call_49 : decode cX7_call 49 = .ok (.aload_n 0, 1) := by decide +kernel
theorem dX7_call_50 : decode cX7_call 50 = .ok (.getfield 26, 3) := by decide +kernel
theorem dX7_call_53 : decode cX7_call 53 = .ok (.iload_n 1, 1) := by decide +kernel
theorem dX7_call_54 : decode cX7_call 54 = .ok (.iaload, 1) := by decide +kernel
theorem dX7_call_55 : decode cX7_call 55 = .ok (.istore 4, 2) := by decide +kernel
theorem dX7_call_57 : decode cX7_call 57 = .ok (.aload_n 0, 1) := by decide +kernel
theorem dX7_call_58 : decode cX7_call 58 = .ok (.getfield 23, 3) := by decide +kernel
theorem dX7_call_61 : decode cX7_call 61 = .ok (.iload_n 1, 1) := by decide +kernel
theorem dX7_call_62 : decode cX7_call 62 = .ok (.iload_n 2, 1) := by decide +kernel
theorem dX7_call_63 : decode cX7_call 63 = .ok (.ifCond .ne 7, 3) := by decide +kernel
theorem dX7_call_66 : decode cX7_call 66 = .ok (.iload_n 3, 1) := by decide +kernel
theorem dX7_call_67 : decode cX7_call 67 = .ok (.goto 9, 3) := by decide +kernel
theorem dX7_call_70 : decode cX7_call 70 = .ok (.aload_n 0, 1) := by decide +kernel
theorem dX7_call_71 : decode cX7_call 71 = .ok (.getfield 23, 3) := by decide +kernel
theorem dX7_call_74 : decode cX7_call 74 = .ok (.iload_n 1, 1) := by decide +kernel
theorem dX7_call_75 : decode cX7_call 75 = .ok (.iaload, 1) := by decide +kernel
theorem dX7_call_76 : decode cX7_call 76 = .ok (.iastore, 1) := by decide +kernel
theorem dX7_call_77 : decode cX7_call 77 = .ok (.aload_n 0, 1) := by decide +kernel
theorem dX7_call_78 : decode cX7_call 78 = .ok (.getfield 26, 3) := by decide +kernel
theorem dX7_call_81 : decode cX7_call 81 = .ok (.iload_n 1, 1) := by decide +kernel
theorem dX7_call_82 : decode cX7_call 82 = .ok (.iload_n 2, 1) := by decide +kernel
theorem dX7_call_83 : decode cX7_call 83 = .ok (.iconst 1, 1) := by decide +kernel
theorem dX7_call_84 : decode cX7_call 84 = .ok (.if_icmp .ne 7, 3) := by decide +kernel
theorem dX7_call_87 : decode cX7_call 87 = .ok (.iload_n 3, 1) := by decide +kernel
theorem dX7_call_88 : decode cX7_call 88 = .ok (.goto 9, 3) := by decide +kernel
theorem dX7_call_91 : decode cX7_call 91 = .ok (.aload_n 0, 1) := by decide +kernel
theorem dX7_call_92 : decode cX7_call 92 = .ok (.getfield 26, 3) := by decide +kernel
theorem dX7_call_95 : decode cX7_call 95 = .ok (.iload_n 1, 1) := by decide +kernel
theorem dX7_call_96 : decode cX7_call 96 = .ok (.iaload, 1) := by decide +kernel
theorem dX7_call_97 : decode cX7_call 97 = .ok (.iastore, 1) := by decide +kernel
theorem dX7_call_98 : decode cX7_call 98 = .ok (.iload 4, 2) := by decide +kernel
theorem dX7_call_100 : decode cX7_call 100 = .ok (.ireturn, 1) := by decide +kernel
theorem dX7_shift_0 : decode cX7_shift 0 = .ok (.iload_n 1, 1) := by decide +kernel
theorem dX7_shift_1 : decode cX7_shift 1 = .ok (.iconst 0, 1) := by decide +kernel
theorem dX7_shift_2 : decode cX7_shift 2 = .ok (.iconst 3, 1) := by decide +kernel
theorem dX7_shift_3 : decode cX7_shift 3 = .ok (.invokestatic 60, 3) := by decide +kernel
theorem dX7_shift_6 : decode cX7_shift 6 = .ok (.ifCond .eq 14, 3) := by decide +kernel
theorem dX7_shift_9 : decode cX7_shift 9 = .ok (.iload_n 2, 1) := by decide +kernel
theorem dX7_shift_10 : decode cX7_shift 10 = .ok (.bipush (-50), 2) := by decide +kernel
theorem dX7_shift_12 : decode cX7_shift 12 = .ok (.bipush 50, 2) := by decide +kernel
theorem dX7_shift_14 : decode cX7_shift 14 = .ok (.invokestatic 60, 3) := by decide +kernel
theorem dX7_shift_17 : decode cX7_shift 17 = .ok (.ifCond .ne 7, 3) := by decide +kernel
theorem dX7_shift_20 : decode cX7_shift 20 = .ok (.sipush (-1000), 3) := by decide +kernel
theorem dX7_shift_23 : decode cX7_shift 23 = .ok (.ireturn, 1) := by decide +kernel
theorem dX7_shift_24 : decode cX7_shift 24 = .ok (.aload_n 0, 1) := by decide +kernel
theorem dX7_shift_25 : decode cX7_shift 25 = .ok (.getfield 29, 3) := by decide +kernel
theorem dX7_shift_28 : decode cX7_shift 28 = .ok (.iload_n 1, 1) := by decide +kernel
theorem dX7_shift_29 : decode cX7_shift 29 = .ok (.iaload, 1) := by decide +kernel
theorem dX7_shift_30 : decode cX7_shift 30 = .ok (.istore_n 3, 1) := by decide +kernel
theorem dX7_shift_31 : decode cX7_shift 31 = .ok (.aload_n 0, 1) := by decide +kernel
theorem dX7_shift_32 : decode cX7_shift 32 = .ok (.getfield 29, 3) := by decide +kernel
theorem dX7_shift_35 : decode cX7_shift 35 = .ok (.iload_n 1, 1) := by decide +kernel
theorem dX7_shift_36 : decode cX7_shift 36 = .ok (.iload_n 2, 1) := by decide +kernel
theorem dX7_shift_37 : decode cX7_shift 37 = .ok (.iastore, 1) := by decide +kernel
theorem dX7_shift_38 : decode cX7_shift 38 = .ok (.iload_n 3, 1) := by decide +kernel
theorem dX7_shift_39 : decode cX7_shift 39 = .ok (.ireturn, 1) := by decide +kernel
theorem dX7_masked_0 : decode cX7_masked 0 = .ok (.aload_n 0, 1) := by decide +kernel
theorem dX7_masked_1 : decode cX7_masked 1 = .ok (.getfield 90, 3) := by decide +kernel
theorem dX7_masked_4 : decode cX7_masked 4 = .ok (.bipush 10, 2) := by decide +kernel
theorem dX7_masked_6 : decode cX7_masked 6 = .ok (.if_icmp .ne 6, 3) := by decide +kernel
theorem dX7_masked_9 : decode cX7_masked 9 = .ok (.bipush (-3), 2) := by decide +kernel
theorem dX7_masked_11 : decode cX7_masked 11 = .ok (.ireturn, 1) := by decide +kernel
theorem dX7_masked_12 : decode cX7_masked 12 = .ok (.aload_n 0, 1) := by decide +kernel
theorem dX7_masked_13 : decode cX7_masked 13 = .ok (.getfield 32, 3) := by decide +kernel
theorem dX7_masked_16 : decode cX7_masked 16 = .ok (.aload_n 0, 1) := by decide +kernel
theorem dX7_masked_17 : decode cX7_masked 17 = .ok (.getfield 90, 3) := by decide +kernel
theorem dX7_masked_20 : decode cX7_masked 20 = .ok (.iload_n 1, 1) := by decide +kernel
theorem dX7_masked_21 : decode cX7_masked 21 = .ok (.iastore, 1) := by decide +kernel
theorem dX7_masked_22 : decode cX7_masked 22 = .ok (.aload_n 0, 1) := by decide +kernel
theorem dX7_masked_23 : decode cX7_masked 23 = .ok (.getfield 41, 3) := by decide +kernel
theorem dX7_masked_26 : decode cX7_masked 26 = .ok (.aload_n 0, 1) := by decide +kernel
theorem dX7_masked_27 : decode cX7_masked 27 = .ok (.getfield 90, 3) := by decide +kernel
theorem dX7_masked_30 : decode cX7_masked 30 = .ok (.iload_n 2, 1) := by decide +kernel
theorem dX7_masked_31 : decode cX7_masked 31 = .ok (.iastore, 1) := by decide +kernel
theorem dX7_masked_32 : decode cX7_masked 32 = .ok (.aload_n 0, 1) := by decide +kernel
theorem dX7_masked_33 : decode cX7_masked 33 = .ok (.getfield 35, 3) := by decide +kernel
theorem dX7_masked_36 : decode cX7_masked 36 = .ok (.aload_n 0, 1) := by decide +kernel
theorem dX7_masked_37 : decode cX7_masked 37 = .ok (.getfield 90, 3) := by decide +kernel
theorem dX7_masked_40 : decode cX7_masked 40 = .ok (.iload_n 3, 1) := by decide +kernel
theorem dX7_masked_41 : decode cX7_masked 41 = .ok (.iastore, 1) := by decide +kernel
theorem dX7_masked_42 : decode cX7_masked 42 = .ok (.aload_n 0, 1) := by decide +kernel
theorem dX7_masked_43 : decode cX7_masked 43 = .ok (.getfield 38, 3) := by decide +kernel
theorem dX7_masked_46 : decode cX7_masked 46 = .ok (.aload_n 0, 1) := by decide +kernel
theorem dX7_masked_47 : decode cX7_masked 47 = .ok (.getfield 90, 3) := by decide +kernel
theorem dX7_masked_50 : decode cX7_masked 50 = .ok (.iload 4, 2) := by decide +kernel
theorem dX7_masked_52 : decode cX7_masked 52 = .ok (.iastore, 1) := by decide +kernel
theorem dX7_masked_53 : decode cX7_masked 53 = .ok (.aload_n 0, 1) := by decide +kernel
theorem dX7_masked_54 : decode cX7_masked 54 = .ok (.dup, 1) := by decide +kernel
theorem dX7_masked_55 : decode cX7_masked 55 = .ok (.getfield 90, 3) := by decide +kernel
theorem dX7_masked_58 : decode cX7_masked 58 = .ok (.iconst 1, 1) := by decide +kernel
theorem dX7_masked_59 : decode cX7_masked 59 = .ok (.iadd, 1) := by decide +kernel
theorem dX7_masked_60 : decode cX7_masked 60 = .ok (.putfield 90, 3) := by decide +kernel
theorem dX7_masked_63 : decode cX7_masked 63 = .ok (.aload_n 0, 1) := by decide +kernel
theorem dX7_masked_64 : decode cX7_masked 64 = .ok (.getfield 90, 3) := by decide +kernel
theorem dX7_masked_67 : decode cX7_masked 67 = .ok (.ireturn, 1) := by decide +kernel
theorem dX7_mask_0 : decode cX7_mask 0 = .ok (.iload_n 1, 1) := by decide +kernel
theorem dX7_mask_1 : decode cX7_mask 1 = .ok (.invokestatic 64, 3) := by decide +kernel
theorem dX7_mask_4 : decode cX7_mask 4 = .ok (.ifCond .eq 30, 3) := by decide +kernel
theorem dX7_mask_7 : decode cX7_mask 7 = .ok (.iload_n 2, 1) := by decide +kernel
theorem dX7_mask_8 : decode cX7_mask 8 = .ok (.ifCond .lt 26, 3) := by decide +kernel
theorem dX7_mask_11 : decode cX7_mask 11 = .ok (.iload_n 2, 1) := by decide +kernel
theorem dX7_mask_12 : decode cX7_mask 12 = .ok (.iload_n 3, 1) := by decide +kernel
theorem dX7_mask_13 : decode cX7_mask 13 = .ok (.if_icmp .ge 21, 3) := by decide +kernel
theorem dX7_mask_16 : decode cX7_mask 16 = .ok (.iload_n 3, 1) := by decide +kernel
theorem dX7_mask_17 : decode cX7_mask 17 = .ok (.sipush 4000, 3) := by decide +kernel
theorem dX7_mask_20 : decode cX7_mask 20 = .ok (.if_icmp .gt 14, 3) := by decide +kernel
theorem dX7_mask_23 : decode cX7_mask 23 = .ok (.aload_n 0, 1) := by decide +kernel
theorem dX7_mask_24 : decode cX7_mask 24 = .ok (.iload_n 1, 1) := by decide +kernel
theorem dX7_mask_25 : decode cX7_mask 25 = .ok (.iconst (-1), 1) := by decide +kernel
theorem dX7_mask_26 : decode cX7_mask 26 = .ok (.iload_n 2, 1) := by decide +kernel
theorem dX7_mask_27 : decode cX7_mask 27 = .ok (.iload_n 3, 1) := by decide +kernel
theorem dX7_mask_28 : decode cX7_mask 28 = .ok (.invokevirtual 93, 3) := by decide +kernel
theorem dX7_mask_31 : decode cX7_mask 31 = .ok (.goto 4, 3) := by decide +kernel
theorem dX7_mask_34 : decode cX7_mask 34 = .ok (.iconst (-1), 1) := by decide +kernel
theorem dX7_mask_35 : decode cX7_mask 35 = .ok (.ireturn, 1) := by decide +kernel
theorem dX7_maskWhile_0 : decode cX7_maskWhile 0 = .ok (.iload_n 1, 1) := by decide +kernel
theorem dX7_maskWhile_1 : decode cX7_maskWhile 1 = .ok (.invokestatic 64, 3) := by decide +kernel
theorem dX7_maskWhile_4 : decode cX7_maskWhile 4 = .ok (.ifCond .eq 32, 3) := by decide +kernel
theorem dX7_maskWhile_7 : decode cX7_maskWhile 7 = .ok (.iload_n 2, 1) := by decide +kernel
theorem dX7_maskWhile_8 : decode cX7_maskWhile 8 = .ok (.invokestatic 64, 3) := by decide +kernel
theorem dX7_maskWhile_11 : decode cX7_maskWhile 11 = .ok (.ifCond .eq 25, 3) := by decide +kernel
theorem dX7_maskWhile_14 : decode cX7_maskWhile 14 = .ok (.iload_n 3, 1) := by decide +kernel
theorem dX7_maskWhile_15 : decode cX7_maskWhile 15 = .ok (.iconst 0, 1) := by decide +kernel
theorem dX7_maskWhile_16 : decode cX7_maskWhile 16 = .ok (.sipush 256, 3) := by decide +kernel
theorem dX7_maskWhile_19 : decode cX7_maskWhile 19 = .ok (.invokestatic 60, 3) := by decide +kernel
theorem dX7_maskWhile_22 : decode cX7_maskWhile 22 = .ok (.ifCond .eq 14, 3) := by decide +kernel
theorem dX7_maskWhile_25 : decode cX7_maskWhile 25 = .ok (.aload_n 0, 1) := by decide +kernel
theorem dX7_maskWhile_26 : decode cX7_maskWhile 26 = .ok (.iload_n 1, 1) := by decide +kernel
theorem dX7_maskWhile_27 : decode cX7_maskWhile 27 = .ok (.iload_n 2, 1) := by decide +kernel
theorem dX7_maskWhile_28 : decode cX7_maskWhile 28 = .ok (.iload_n 3, 1) := by decide +kernel
theorem dX7_maskWhile_29 : decode cX7_maskWhile 29 = .ok (.iconst 0, 1) := by decide +kernel
theorem dX7_maskWhile_30 : decode cX7_maskWhile 30 = .ok (.invokevirtual 93, 3) := by decide +kernel
theorem dX7_maskWhile_33 : decode cX7_maskWhile 33 = .ok (.goto 4, 3) := by decide +kernel
theorem dX7_maskWhile_36 : decode cX7_maskWhile 36 = .ok (.iconst (-1), 1) := by decide +kernel
theorem dX7_maskWhile_37 : decode cX7_maskWhile 37 = .ok (.ireturn, 1) := by decide +kernel
theorem dX7_noMasks_0 : decode cX7_noMasks 0 = .ok (.aload_n 0, 1) := by decide +kernel
theorem dX7_noMasks_1 : decode cX7_noMasks 1 = .ok (.getfield 90, 3) := by decide +kernel
theorem dX7_noMasks_4 : decode cX7_noMasks 4 = .ok (.istore_n 1, 1) := by decide +kernel
theorem dX7_noMasks_5 : decode cX7_noMasks 5 = .ok (.aload_n 0, 1) := by decide +kernel
theorem dX7_noMasks_6 : decode cX7_noMasks 6 = .ok (.iconst 0, 1) := by decide +kernel
theorem dX7_noMasks_7 : decode cX7_noMasks 7 = .ok (.putfield 90, 3) := by decide +kernel
theorem dX7_noMasks_10 : decode cX7_noMasks 10 = .ok (.iload_n 1, 1) := by decide +kernel
theorem dX7_noMasks_11 : decode cX7_noMasks 11 = .ok (.ireturn, 1) := by decide +kernel
theorem dX7_agree_0 : decode cX7_agree 0 = .ok (.iload_n 1, 1) := by decide +kernel
theorem dX7_agree_1 : decode cX7_agree 1 = .ok (.iload_n 2, 1) := by decide +kernel
theorem dX7_agree_2 : decode cX7_agree 2 = .ok (.if_icmp .eq 25, 3) := by decide +kernel
theorem dX7_agree_5 : decode cX7_agree 5 = .ok (.aload_n 0, 1) := by decide +kernel
theorem dX7_agree_6 : decode cX7_agree 6 = .ok (.getfield 87, 3) := by decide +kernel
theorem dX7_agree_9 : decode cX7_agree 9 = .ok (.iconst 1, 1) := by decide +kernel
theorem dX7_agree_10 : decode cX7_agree 10 = .ok (.if_icmp .ne 21, 3) := by decide +kernel
theorem dX7_agree_13 : decode cX7_agree 13 = .ok (.iload_n 1, 1) := by decide +kernel
theorem dX7_agree_14 : decode cX7_agree 14 = .ok (.sipush 256, 3) := by decide +kernel
theorem dX7_agree_17 : decode cX7_agree 17 = .ok (.if_icmp .eq 10, 3) := by decide +kernel
theorem dX7_agree_20 : decode cX7_agree 20 = .ok (.iload_n 2, 1) := by decide +kernel
theorem dX7_agree_21 : decode cX7_agree 21 = .ok (.sipush 256, 3) := by decide +kernel
theorem dX7_agree_24 : decode cX7_agree 24 = .ok (.if_icmp .ne 7, 3) := by decide +kernel
theorem dX7_agree_27 : decode cX7_agree 27 = .ok (.iconst 1, 1) := by decide +kernel
theorem dX7_agree_28 : decode cX7_agree 28 = .ok (.goto 4, 3) := by decide +kernel
theorem dX7_agree_31 : decode cX7_agree 31 = .ok (.iconst 0, 1) := by decide +kernel
theorem dX7_agree_32 : decode cX7_agree 32 = .ok (.ireturn, 1) := by decide +kernel
theorem dX7_isMasked_0 : decode cX7_isMasked 0 = .ok (.iconst 0, 1) := by decide +kernel
theorem dX7_isMasked_1 : decode cX7_isMasked 1 = .ok (.istore_n 3, 1) := by decide +kernel
theorem dX7_isMasked_2 : decode cX7_isMasked 2 = .ok (.iconst 0, 1) := by decide +kernel
theorem dX7_isMasked_3 : decode cX7_isMasked 3 = .ok (.istore 4, 2) := by decide +kernel
theorem dX7_isMasked_5 : decode cX7_isMasked 5 = .ok (.iload 4, 2) := by decide +kernel
theorem dX7_isMasked_7 : decode cX7_isMasked 7 = .ok (.aload_n 0, 1) := by decide +kernel
theorem dX7_isMasked_8 : decode cX7_isMasked 8 = .ok (.getfield 90, 3) := by decide +kernel
theorem dX7_isMasked_11 : decode cX7_isMasked 11 = .ok (.if_icmp .ge 89, 3) := by decide +kernel
theorem dX7_isMasked_14 : decode cX7_isMasked 14 = .ok (.iload_n 3, 1) := by decide +kernel
theorem dX7_isMasked_15 : decode cX7_isMasked 15 = .ok (.ifCond .ne 73, 3) := by decide +kernel
theorem dX7_isMasked_18 : decode cX7_isMasked 18 = .ok (.aload_n 0, 1) := by decide +kernel
theorem dX7_isMasked_19 : decode cX7_isMasked 19 = .ok (.getfield 32, 3) := by decide +kernel
theorem dX7_isMasked_22 : decode cX7_isMasked 22 = .ok (.iload 4, 2) := by decide +kernel
theorem dX7_isMasked_24 : decode cX7_isMasked 24 = .ok (.iaload, 1) := by decide +kernel
theorem dX7_isMasked_25 : decode cX7_isMasked 25 = .ok (.iload_n 1, 1) := by decide +kernel
theorem dX7_isMasked_26 : decode cX7_isMasked 26 = .ok (.if_icmp .ne 66, 3) := by decide +kernel
theorem dX7_isMasked_29 : decode cX7_isMasked 29 = .ok (.aload_n 0, 1) := by decide +kernel
theorem dX7_isMasked_30 : decode cX7_isMasked 30 = .ok (.getfield 41, 3) := by decide +kernel
theorem dX7_isMasked_33 : decode cX7_isMasked 33 = .ok (.iload 4, 2) := by decide +kernel
theorem dX7_isMasked_35 : decode cX7_isMasked 35 = .ok (.iaload, 1) := by decide +kernel
theorem dX7_isMasked_36 : decode cX7_isMasked 36 = .ok (.ifCond .ge 29, 3) := by decide +kernel
theorem dX7_isMasked_39 : decode cX7_isMasked 39 = .ok (.iload_n 2, 1) := by decide +kernel
theorem dX7_isMasked_40 : decode cX7_isMasked 40 = .ok (.aload_n 0, 1) := by decide +kernel
theorem dX7_isMasked_41 : decode cX7_isMasked 41 = .ok (.getfield 35, 3) := by decide +kernel
theorem dX7_isMasked_44 : decode cX7_isMasked 44 = .ok (.iload 4, 2) := by decide +kernel
theorem dX7_isMasked_46 : decode cX7_isMasked 46 = .ok (.iaload, 1) := by decide +kernel
theorem dX7_isMasked_47 : decode cX7_isMasked 47 = .ok (.aload_n 0, 1) := by decide +kernel
theorem dX7_isMasked_48 : decode cX7_isMasked 48 = .ok (.getfield 38, 3) := by decide +kernel
theorem dX7_isMasked_51 : decode cX7_isMasked 51 = .ok (.iload 4, 2) := by decide +kernel
theorem dX7_isMasked_53 : decode cX7_isMasked 53 = .ok (.iaload, 1) := by decide +kernel
theorem dX7_isMasked_54 : decode cX7_isMasked 54 = .ok (.iconst 1, 1) := by decide +kernel
theorem dX7_isMasked_55 : decode cX7_isMasked 55 = .ok (.isub, 1) := by decide +kernel
theorem dX7_isMasked_56 : decode cX7_isMasked 56 = .ok (.invokestatic 60, 3) := by decide +kernel
theorem dX7_isMasked_59 : decode cX7_isMasked 59 = .ok (.ifCond .eq 33, 3) := by decide +kernel
theorem dX7_isMasked_62 : decode cX7_isMasked 62 = .ok (.goto 26, 3) := by decide +kernel
theorem dX7_isMasked_65 : decode cX7_isMasked 65 = .ok (.aload_n 0, 1) := by decide +kernel
theorem dX7_isMasked_66 : decode cX7_isMasked 66 = .ok (.iconst 0, 1) := by decide +kernel
theorem dX7_isMasked_67 : decode cX7_isMasked 67 = .ok (.aload_n 0, 1) := by decide +kernel
theorem dX7_isMasked_68 : decode cX7_isMasked 68 = .ok (.getfield 41, 3) := by decide +kernel
theorem dX7_isMasked_71 : decode cX7_isMasked 71 = .ok (.iload 4, 2) := by decide +kernel
theorem dX7_isMasked_73 : decode cX7_isMasked 73 = .ok (.iaload, 1) := by decide +kernel
theorem dX7_isMasked_74 : decode cX7_isMasked 74 = .ok (.iload_n 2, 1) := by decide +kernel
theorem dX7_isMasked_75 : decode cX7_isMasked 75 = .ok (.invokevirtual 83, 3) := by decide +kernel
theorem dX7_isMasked_78 : decode cX7_isMasked 78 = .ok (.aload_n 0, 1) := by decide +kernel
theorem dX7_isMasked_79 : decode cX7_isMasked 79 = .ok (.getfield 35, 3) := by decide +kernel
theorem dX7_isMasked_82 : decode cX7_isMasked 82 = .ok (.iload 4, 2) := by decide +kernel
theorem dX7_isMasked_84 : decode cX7_isMasked 84 = .ok (.iaload, 1) := by decide +kernel
theorem dX7_isMasked_85 : decode cX7_isMasked 85 = .ok (.if_icmp .ne 7, 3) := by decide +kernel
theorem dX7_isMasked_88 : decode cX7_isMasked 88 = .ok (.iconst 1, 1) := by decide +kernel
theorem dX7_isMasked_89 : decode cX7_isMasked 89 = .ok (.goto 4, 3) := by decide +kernel
theorem dX7_isMasked_92 : decode cX7_isMasked 92 = .ok (.iconst 0, 1) := by decide +kernel
theorem dX7_isMasked_93 : decode cX7_isMasked 93 = .ok (.istore_n 3, 1) := by decide +kernel
theorem dX7_isMasked_94 : decode cX7_isMasked 94 = .ok (.iinc 4 1, 3) := by decide +kernel
theorem dX7_isMasked_97 : decode cX7_isMasked 97 = .ok (.goto (-92), 3) := by decide +kernel
theorem dX7_isMasked_100 : decode cX7_isMasked 100 = .ok (.iload_n 3, 1) := by decide +kernel
theorem dX7_isMasked_101 : decode cX7_isMasked 101 = .ok (.ireturn, 1) := by decide +kernel
theorem dX7_differs_0 : decode cX7_differs 0 = .ok (.aload_n 0, 1) := by decide +kernel
theorem dX7_differs_1 : decode cX7_differs 1 = .ok (.aload_n 0, 1) := by decide +kernel
theorem dX7_differs_2 : decode cX7_differs 2 = .ok (.iconst 0, 1) := by decide +kernel
theorem dX7_differs_3 : decode cX7_differs 3 = .ok (.iload_n 1, 1) := by decide +kernel
theorem dX7_differs_4 : decode cX7_differs 4 = .ok (.iload_n 2, 1) := by decide +kernel
theorem dX7_differs_5 : decode cX7_differs 5 = .ok (.invokevirtual 83, 3) := by decide +kernel
theorem dX7_differs_8 : decode cX7_differs 8 = .ok (.aload_n 0, 1) := by decide +kernel
theorem dX7_differs_9 : decode cX7_differs 9 = .ok (.iconst 1, 1) := by decide +kernel
theorem dX7_differs_10 : decode cX7_differs 10 = .ok (.aload_n 0, 1) := by decide +kernel
theorem dX7_differs_11 : decode cX7_differs 11 = .ok (.getfield 23, 3) := by decide +kernel
theorem dX7_differs_14 : decode cX7_differs 14 = .ok (.iload_n 1, 1) := by decide +kernel
theorem dX7_differs_15 : decode cX7_differs 15 = .ok (.iaload, 1) := by decide +kernel
theorem dX7_differs_16 : decode cX7_differs 16 = .ok (.iload_n 2, 1) := by decide +kernel
theorem dX7_differs_17 : decode cX7_differs 17 = .ok (.iload_n 3, 1) := by decide +kernel
theorem dX7_differs_18 : decode cX7_differs 18 = .ok (.iadd, 1) := by decide +kernel
theorem dX7_differs_19 : decode cX7_differs 19 = .ok (.invokevirtual 83, 3) := by decide +kernel
theorem dX7_differs_22 : decode cX7_differs 22 = .ok (.invokevirtual 97, 3) := by decide +kernel
theorem dX7_differs_25 : decode cX7_differs 25 = .ok (.ifCond .ne 16, 3) := by decide +kernel
theorem dX7_differs_28 : decode cX7_differs 28 = .ok (.aload_n 0, 1) := by decide +kernel
theorem dX7_differs_29 : decode cX7_differs 29 = .ok (.iload_n 1, 1) := by decide +kernel
theorem dX7_differs_30 : decode cX7_differs 30 = .ok (.iload_n 2, 1) := by decide +kernel
theorem dX7_differs_31 : decode cX7_differs 31 = .ok (.invokevirtual 100, 3) := by decide +kernel
theorem dX7_differs_34 : decode cX7_differs 34 = .ok (.ifCond .ne 7, 3) := by decide +kernel
theorem dX7_differs_37 : decode cX7_differs 37 = .ok (.iconst 1, 1) := by decide +kernel
theorem dX7_differs_38 : decode cX7_differs 38 = .ok (.goto 4, 3) := by decide +kernel
theorem dX7_differs_41 : decode cX7_differs 41 = .ok (.iconst 0, 1) := by decide +kernel
theorem dX7_differs_42 : decode cX7_differs 42 = .ok (.ireturn, 1) := by decide +kernel
theorem dX7_least_0 : decode cX7_least 0 = .ok (.iload_n 0, 1) := by decide +kernel
theorem dX7_least_1 : decode cX7_least 1 = .ok (.iload_n 1, 1) := by decide +kernel
theorem dX7_least_2 : decode cX7_least 2 = .ok (.if_icmp .ge 7, 3) := by decide +kernel
theorem dX7_least_5 : decode cX7_least 5 = .ok (.iload_n 0, 1) := by decide +kernel
theorem dX7_least_6 : decode cX7_least 6 = .ok (.goto 4, 3) := by decide +kernel
theorem dX7_least_9 : decode cX7_least 9 = .ok (.iload_n 1, 1) := by decide +kernel
theorem dX7_least_10 : decode cX7_least 10 = .ok (.ireturn, 1) := by decide +kernel
theorem dX7_next_0 : decode cX7_next 0 = .ok (.aload_n 0, 1) := by decide +kernel
theorem dX7_next_1 : decode cX7_next 1 = .ok (.iconst 0, 1) := by decide +kernel
theorem dX7_next_2 : decode cX7_next 2 = .ok (.iload_n 1, 1) := by decide +kernel
theorem dX7_next_3 : decode cX7_next 3 = .ok (.iload_n 2, 1) := by decide +kernel
theorem dX7_next_4 : decode cX7_next 4 = .ok (.invokevirtual 103, 3) := by decide +kernel
theorem dX7_next_7 : decode cX7_next 7 = .ok (.aload_n 0, 1) := by decide +kernel
theorem dX7_next_8 : decode cX7_next 8 = .ok (.iconst 1, 1) := by decide +kernel
theorem dX7_next_9 : decode cX7_next 9 = .ok (.aload_n 0, 1) := by decide +kernel
theorem dX7_next_10 : decode cX7_next 10 = .ok (.getfield 23, 3) := by decide +kernel
theorem dX7_next_13 : decode cX7_next 13 = .ok (.iload_n 1, 1) := by decide +kernel
theorem dX7_next_14 : decode cX7_next 14 = .ok (.iaload, 1) := by decide +kernel
theorem dX7_next_15 : decode cX7_next 15 = .ok (.iload_n 2, 1) := by decide +kernel
theorem dX7_next_16 : decode cX7_next 16 = .ok (.iload_n 3, 1) := by decide +kernel
theorem dX7_next_17 : decode cX7_next 17 = .ok (.iadd, 1) := by decide +kernel
theorem dX7_next_18 : decode cX7_next 18 = .ok (.invokevirtual 103, 3) := by decide +kernel
theorem dX7_next_21 : decode cX7_next 21 = .ok (.iload_n 3, 1) := by decide +kernel
theorem dX7_next_22 : decode cX7_next 22 = .ok (.isub, 1) := by decide +kernel
theorem dX7_next_23 : decode cX7_next 23 = .ok (.invokestatic 106, 3) := by decide +kernel
theorem dX7_next_26 : decode cX7_next 26 = .ok (.istore 4, 2) := by decide +kernel
theorem dX7_next_28 : decode cX7_next 28 = .ok (.iconst 0, 1) := by decide +kernel
theorem dX7_next_29 : decode cX7_next 29 = .ok (.istore 5, 2) := by decide +kernel
theorem dX7_next_31 : decode cX7_next 31 = .ok (.iload 5, 2) := by decide +kernel
theorem dX7_next_33 : decode cX7_next 33 = .ok (.aload_n 0, 1) := by decide +kernel
theorem dX7_next_34 : decode cX7_next 34 = .ok (.getfield 90, 3) := by decide +kernel
theorem dX7_next_37 : decode cX7_next 37 = .ok (.if_icmp .ge 120, 3) := by decide +kernel
theorem dX7_next_40 : decode cX7_next 40 = .ok (.aload_n 0, 1) := by decide +kernel
theorem dX7_next_41 : decode cX7_next 41 = .ok (.getfield 32, 3) := by decide +kernel
theorem dX7_next_44 : decode cX7_next 44 = .ok (.iload 5, 2) := by decide +kernel
theorem dX7_next_46 : decode cX7_next 46 = .ok (.iaload, 1) := by decide +kernel
theorem dX7_next_47 : decode cX7_next 47 = .ok (.iload_n 1, 1) := by decide +kernel
theorem dX7_next_48 : decode cX7_next 48 = .ok (.if_icmp .ne 36, 3) := by decide +kernel
theorem dX7_next_51 : decode cX7_next 51 = .ok (.aload_n 0, 1) := by decide +kernel
theorem dX7_next_52 : decode cX7_next 52 = .ok (.getfield 41, 3) := by decide +kernel
theorem dX7_next_55 : decode cX7_next 55 = .ok (.iload 5, 2) := by decide +kernel
theorem dX7_next_57 : decode cX7_next 57 = .ok (.iaload, 1) := by decide +kernel
theorem dX7_next_58 : decode cX7_next 58 = .ok (.ifCond .lt 26, 3) := by decide +kernel
theorem dX7_next_61 : decode cX7_next 61 = .ok (.iload 4, 2) := by decide +kernel
theorem dX7_next_63 : decode cX7_next 63 = .ok (.aload_n 0, 1) := by decide +kernel
theorem dX7_next_64 : decode cX7_next 64 = .ok (.iconst 0, 1) := by decide +kernel
theorem dX7_next_65 : decode cX7_next 65 = .ok (.aload_n 0, 1) := by decide +kernel
theorem dX7_next_66 : decode cX7_next 66 = .ok (.getfield 41, 3) := by decide +kernel
theorem dX7_next_69 : decode cX7_next 69 = .ok (.iload 5, 2) := by decide +kernel
theorem dX7_next_71 : decode cX7_next 71 = .ok (.iaload, 1) := by decide +kernel
theorem dX7_next_72 : decode cX7_next 72 = .ok (.iload_n 2, 1) := by decide +kernel
theorem dX7_next_73 : decode cX7_next 73 = .ok (.invokevirtual 103, 3) := by decide +kernel
theorem dX7_next_76 : decode cX7_next 76 = .ok (.invokestatic 106, 3) := by decide +kernel
theorem dX7_next_79 : decode cX7_next 79 = .ok (.istore 4, 2) := by decide +kernel
theorem dX7_next_81 : decode cX7_next 81 = .ok (.goto 70, 3) := by decide +kernel
theorem dX7_next_84 : decode cX7_next 84 = .ok (.aload_n 0, 1) := by decide +kernel
theorem dX7_next_85 : decode cX7_next 85 = .ok (.getfield 32, 3) := by decide +kernel
theorem dX7_next_88 : decode cX7_next 88 = .ok (.iload 5, 2) := by decide +kernel
theorem dX7_next_90 : decode cX7_next 90 = .ok (.iaload, 1) := by decide +kernel
theorem dX7_next_91 : decode cX7_next 91 = .ok (.iload_n 1, 1) := by decide +kernel
theorem dX7_next_92 : decode cX7_next 92 = .ok (.if_icmp .ne 59, 3) := by decide +kernel
theorem dX7_next_95 : decode cX7_next 95 = .ok (.aload_n 0, 1) := by decide +kernel
theorem dX7_next_96 : decode cX7_next 96 = .ok (.getfield 35, 3) := by decide +kernel
theorem dX7_next_99 : decode cX7_next 99 = .ok (.iload 5, 2) := by decide +kernel
theorem dX7_next_101 : decode cX7_next 101 = .ok (.iaload, 1) := by decide +kernel
theorem dX7_next_102 : decode cX7_next 102 = .ok (.iload_n 2, 1) := by decide +kernel
theorem dX7_next_103 : decode cX7_next 103 = .ok (.if_icmp .le 18, 3) := by decide +kernel
theorem dX7_next_106 : decode cX7_next 106 = .ok (.iload 4, 2) := by decide +kernel
theorem dX7_next_108 : decode cX7_next 108 = .ok (.aload_n 0, 1) := by decide +kernel
theorem dX7_next_109 : decode cX7_next 109 = .ok (.getfield 35, 3) := by decide +kernel
theorem dX7_next_112 : decode cX7_next 112 = .ok (.iload 5, 2) := by decide +kernel
theorem dX7_next_114 : decode cX7_next 114 = .ok (.iaload, 1) := by decide +kernel
theorem dX7_next_115 : decode cX7_next 115 = .ok (.invokestatic 106, 3) := by decide +kernel
theorem dX7_next_118 : decode cX7_next 118 = .ok (.goto 31, 3) := by decide +kernel
theorem dX7_next_121 : decode cX7_next 121 = .ok (.aload_n 0, 1) := by decide +kernel
theorem dX7_next_122 : decode cX7_next 122 = .ok (.getfield 38, 3) := by decide +kernel
theorem dX7_next_125 : decode cX7_next 125 = .ok (.iload 5, 2) := by decide +kernel
theorem dX7_next_127 : decode cX7_next 127 = .ok (.iaload, 1) := by decide +kernel
theorem dX7_next_128 : decode cX7_next 128 = .ok (.iload_n 2, 1) := by decide +kernel
theorem dX7_next_129 : decode cX7_next 129 = .ok (.if_icmp .le 18, 3) := by decide +kernel
theorem dX7_next_132 : decode cX7_next 132 = .ok (.iload 4, 2) := by decide +kernel
theorem dX7_next_134 : decode cX7_next 134 = .ok (.aload_n 0, 1) := by decide +kernel
theorem dX7_next_135 : decode cX7_next 135 = .ok (.getfield 38, 3) := by decide +kernel
theorem dX7_next_138 : decode cX7_next 138 = .ok (.iload 5, 2) := by decide +kernel
theorem dX7_next_140 : decode cX7_next 140 = .ok (.iaload, 1) := by decide +kernel
theorem dX7_next_141 : decode cX7_next 141 = .ok (.invokestatic 106, 3) := by decide +kernel
theorem dX7_next_144 : decode cX7_next 144 = .ok (.goto 5, 3) := by decide +kernel
theorem dX7_next_147 : decode cX7_next 147 = .ok (.iload 4, 2) := by decide +kernel
theorem dX7_next_149 : decode cX7_next 149 = .ok (.istore 4, 2) := by decide +kernel
theorem dX7_next_151 : decode cX7_next 151 = .ok (.iinc 5 1, 3) := by decide +kernel
theorem dX7_next_154 : decode cX7_next 154 = .ok (.goto (-123), 3) := by decide +kernel
theorem dX7_next_157 : decode cX7_next 157 = .ok (.iload 4, 2) := by decide +kernel
theorem dX7_next_159 : decode cX7_next 159 = .ok (.ireturn, 1) := by decide +kernel
theorem dX7_spans_0 : decode cX7_spans 0 = .ok (.iconst 0, 1) := by decide +kernel
theorem dX7_spans_1 : decode cX7_spans 1 = .ok (.istore_n 2, 1) := by decide +kernel
theorem dX7_spans_2 : decode cX7_spans 2 = .ok (.iconst 0, 1) := by decide +kernel
theorem dX7_spans_3 : decode cX7_spans 3 = .ok (.istore_n 3, 1) := by decide +kernel
theorem dX7_spans_4 : decode cX7_spans 4 = .ok (.iload_n 3, 1) := by decide +kernel
theorem dX7_spans_5 : decode cX7_spans 5 = .ok (.bipush 12, 2) := by decide +kernel
theorem dX7_spans_7 : decode cX7_spans 7 = .ok (.if_icmp .ge 124, 3) := by decide +kernel
theorem dX7_spans_10 : decode cX7_spans 10 = .ok (.aload_n 0, 1) := by decide +kernel
theorem dX7_spans_11 : decode cX7_spans 11 = .ok (.getfield 29, 3) := by decide +kernel
theorem dX7_spans_14 : decode cX7_spans 14 = .ok (.aload_n 0, 1) := by decide +kernel
theorem dX7_spans_15 : decode cX7_spans 15 = .ok (.getfield 26, 3) := by decide +kernel
theorem dX7_spans_18 : decode cX7_spans 18 = .ok (.iload_n 3, 1) := by decide +kernel
theorem dX7_spans_19 : decode cX7_spans 19 = .ok (.iaload, 1) := by decide +kernel
theorem dX7_spans_20 : decode cX7_spans 20 = .ok (.iaload, 1) := by decide +kernel
theorem dX7_spans_21 : decode cX7_spans 21 = .ok (.istore 4, 2) := by decide +kernel
theorem dX7_spans_23 : decode cX7_spans 23 = .ok (.iconst (-1), 1) := by decide +kernel
theorem dX7_spans_24 : decode cX7_spans 24 = .ok (.istore 5, 2) := by decide +kernel
theorem dX7_spans_26 : decode cX7_spans 26 = .ok (.iconst 0, 1) := by decide +kernel
theorem dX7_spans_27 : decode cX7_spans 27 = .ok (.istore 6, 2) := by decide +kernel
theorem dX7_spans_29 : decode cX7_spans 29 = .ok (.iload 6, 2) := by decide +kernel
theorem dX7_spans_31 : decode cX7_spans 31 = .ok (.aload_n 0, 1) := by decide +kernel
theorem dX7_spans_32 : decode cX7_spans 32 = .ok (.getfield 7, 3) := by decide +kernel
theorem dX7_spans_35 : decode cX7_spans 35 = .ok (.if_icmp .ge 69, 3) := by decide +kernel
theorem dX7_spans_38 : decode cX7_spans 38 = .ok (.aload_n 0, 1) := by decide +kernel
theorem dX7_spans_39 : decode cX7_spans 39 = .ok (.iload_n 3, 1) := by decide +kernel
theorem dX7_spans_40 : decode cX7_spans 40 = .ok (.iload 6, 2) := by decide +kernel
theorem dX7_spans_42 : decode cX7_spans 42 = .ok (.iload 4, 2) := by decide +kernel
theorem dX7_spans_44 : decode cX7_spans 44 = .ok (.invokevirtual 110, 3) := by decide +kernel
theorem dX7_spans_47 : decode cX7_spans 47 = .ok (.istore 7, 2) := by decide +kernel
theorem dX7_spans_49 : decode cX7_spans 49 = .ok (.iload 7, 2) := by decide +kernel
theorem dX7_spans_51 : decode cX7_spans 51 = .ok (.ifCond .eq 12, 3) := by decide +kernel
theorem dX7_spans_54 : decode cX7_spans 54 = .ok (.iload 5, 2) := by decide +kernel
theorem dX7_spans_56 : decode cX7_spans 56 = .ok (.ifCond .ge 7, 3) := by decide +kernel
theorem dX7_spans_59 : decode cX7_spans 59 = .ok (.iload 6, 2) := by decide +kernel
theorem dX7_spans_61 : decode cX7_spans 61 = .ok (.istore 5, 2) := by decide +kernel
theorem dX7_spans_63 : decode cX7_spans 63 = .ok (.iload 7, 2) := by decide +kernel
theorem dX7_spans_65 : decode cX7_spans 65 = .ok (.ifCond .ne 25, 3) := by decide +kernel
theorem dX7_spans_68 : decode cX7_spans 68 = .ok (.iload 5, 2) := by decide +kernel
theorem dX7_spans_70 : decode cX7_spans 70 = .ok (.ifCond .lt 20, 3) := by decide +kernel
theorem dX7_spans_73 : decode cX7_spans 73 = .ok (.iload_n 2, 1) := by decide +kernel
theorem dX7_spans_74 : decode cX7_spans 74 = .ok (.aload_n 0, 1) := by decide +kernel
theorem dX7_spans_75 : decode cX7_spans 75 = .ok (.iload_n 2, 1) := by decide +kernel
theorem dX7_spans_76 : decode cX7_spans 76 = .ok (.iload_n 1, 1) := by decide +kernel
theorem dX7_spans_77 : decode cX7_spans 77 = .ok (.iload_n 3, 1) := by decide +kernel
theorem dX7_spans_78 : decode cX7_spans 78 = .ok (.iload 5, 2) := by decide +kernel
theorem dX7_spans_80 : decode cX7_spans 80 = .ok (.iload 6, 2) := by decide +kernel
theorem dX7_spans_82 : decode cX7_spans 82 = .ok (.invokevirtual 113, 3) := by decide +kernel
theorem dX7_spans_85 : decode cX7_spans 85 = .ok (.iadd, 1) := by decide +kernel
theorem dX7_spans_86 : decode cX7_spans 86 = .ok (.istore_n 2, 1) := by decide +kernel
theorem dX7_spans_87 : decode cX7_spans 87 = .ok (.iconst (-1), 1) := by decide +kernel
theorem dX7_spans_88 : decode cX7_spans 88 = .ok (.istore 5, 2) := by decide +kernel
theorem dX7_spans_90 : decode cX7_spans 90 = .ok (.aload_n 0, 1) := by decide +kernel
theorem dX7_spans_91 : decode cX7_spans 91 = .ok (.iload_n 3, 1) := by decide +kernel
theorem dX7_spans_92 : decode cX7_spans 92 = .ok (.iload 6, 2) := by decide +kernel
theorem dX7_spans_94 : decode cX7_spans 94 = .ok (.iload 4, 2) := by decide +kernel
theorem dX7_spans_96 : decode cX7_spans 96 = .ok (.invokevirtual 117, 3) := by decide +kernel
theorem dX7_spans_99 : decode cX7_spans 99 = .ok (.istore 6, 2) := by decide +kernel
theorem dX7_spans_101 : decode cX7_spans 101 = .ok (.goto (-72), 3) := by decide +kernel
theorem dX7_spans_104 : decode cX7_spans 104 = .ok (.iload 5, 2) := by decide +kernel
theorem dX7_spans_106 : decode cX7_spans 106 = .ok (.ifCond .lt 19, 3) := by decide +kernel
theorem dX7_spans_109 : decode cX7_spans 109 = .ok (.iload_n 2, 1) := by decide +kernel
theorem dX7_spans_110 : decode cX7_spans 110 = .ok (.aload_n 0, 1) := by decide +kernel
theorem dX7_spans_111 : decode cX7_spans 111 = .ok (.iload_n 2, 1) := by decide +kernel
theorem dX7_spans_112 : decode cX7_spans 112 = .ok (.iload_n 1, 1) := by decide +kernel
theorem dX7_spans_113 : decode cX7_spans 113 = .ok (.iload_n 3, 1) := by decide +kernel
theorem dX7_spans_114 : decode cX7_spans 114 = .ok (.iload 5, 2) := by decide +kernel
theorem dX7_spans_116 : decode cX7_spans 116 = .ok (.aload_n 0, 1) := by decide +kernel
theorem dX7_spans_117 : decode cX7_spans 117 = .ok (.getfield 7, 3) := by decide +kernel
theorem dX7_spans_120 : decode cX7_spans 120 = .ok (.invokevirtual 113, 3) := by decide +kernel
theorem dX7_spans_123 : decode cX7_spans 123 = .ok (.iadd, 1) := by decide +kernel
theorem dX7_spans_124 : decode cX7_spans 124 = .ok (.istore_n 2, 1) := by decide +kernel
theorem dX7_spans_125 : decode cX7_spans 125 = .ok (.iinc 3 1, 3) := by decide +kernel
theorem dX7_spans_128 : decode cX7_spans 128 = .ok (.goto (-124), 3) := by decide +kernel
theorem dX7_spans_131 : decode cX7_spans 131 = .ok (.iload_n 2, 1) := by decide +kernel
theorem dX7_spans_132 : decode cX7_spans 132 = .ok (.ireturn, 1) := by decide +kernel
theorem dX7_found_0 : decode cX7_found 0 = .ok (.iload_n 1, 1) := by decide +kernel
theorem dX7_found_1 : decode cX7_found 1 = .ok (.iload_n 2, 1) := by decide +kernel
theorem dX7_found_2 : decode cX7_found 2 = .ok (.if_icmp .ne 20, 3) := by decide +kernel
theorem dX7_found_5 : decode cX7_found 5 = .ok (.aload_n 0, 1) := by decide +kernel
theorem dX7_found_6 : decode cX7_found 6 = .ok (.iload_n 3, 1) := by decide +kernel
theorem dX7_found_7 : decode cX7_found 7 = .ok (.putfield 120, 3) := by decide +kernel
theorem dX7_found_10 : decode cX7_found 10 = .ok (.aload_n 0, 1) := by decide +kernel
theorem dX7_found_11 : decode cX7_found 11 = .ok (.iload 4, 2) := by decide +kernel
theorem dX7_found_13 : decode cX7_found 13 = .ok (.putfield 123, 3) := by decide +kernel
theorem dX7_found_16 : decode cX7_found 16 = .ok (.aload_n 0, 1) := by decide +kernel
theorem dX7_found_17 : decode cX7_found 17 = .ok (.iload 5, 2) := by decide +kernel
theorem dX7_found_19 : decode cX7_found 19 = .ok (.putfield 126, 3) := by decide +kernel
theorem dX7_found_22 : decode cX7_found 22 = .ok (.iconst 1, 1) := by decide +kernel
theorem dX7_found_23 : decode cX7_found 23 = .ok (.ireturn, 1) := by decide +kernel
theorem dX7_differences_0 : decode cX7_differences 0 = .ok (.aload_n 0, 1) := by decide +kernel
theorem dX7_differences_1 : decode cX7_differences 1 = .ok (.iconst (-1), 1) := by decide +kernel
theorem dX7_differences_2 : decode cX7_differences 2 = .ok (.invokevirtual 129, 3) := by decide +kernel
theorem dX7_differences_5 : decode cX7_differences 5 = .ok (.ireturn, 1) := by decide +kernel
theorem dX7_difference_0 : decode cX7_difference 0 = .ok (.iload_n 1, 1) := by decide +kernel
theorem dX7_difference_1 : decode cX7_difference 1 = .ok (.ifCond .lt 12, 3) := by decide +kernel
theorem dX7_difference_4 : decode cX7_difference 4 = .ok (.iload_n 2, 1) := by decide +kernel
theorem dX7_difference_5 : decode cX7_difference 5 = .ok (.iconst 0, 1) := by decide +kernel
theorem dX7_difference_6 : decode cX7_difference 6 = .ok (.iconst 2, 1) := by decide +kernel
theorem dX7_difference_7 : decode cX7_difference 7 = .ok (.invokestatic 60, 3) := by decide +kernel
theorem dX7_difference_10 : decode cX7_difference 10 = .ok (.ifCond .ne 5, 3) := by decide +kernel
theorem dX7_difference_13 : decode cX7_difference 13 = .ok (.iconst (-1), 1) := by decide +kernel
theorem dX7_difference_14 : decode cX7_difference 14 = .ok (.ireturn, 1) := by decide +kernel
theorem dX7_difference_15 : decode cX7_difference 15 = .ok (.aload_n 0, 1) := by decide +kernel
theorem dX7_difference_16 : decode cX7_difference 16 = .ok (.iload_n 1, 1) := by decide +kernel
theorem dX7_difference_17 : decode cX7_difference 17 = .ok (.invokevirtual 129, 3) := by decide +kernel
theorem dX7_difference_20 : decode cX7_difference 20 = .ok (.iload_n 1, 1) := by decide +kernel
theorem dX7_difference_21 : decode cX7_difference 21 = .ok (.if_icmp .gt 6, 3) := by decide +kernel
theorem dX7_difference_24 : decode cX7_difference 24 = .ok (.bipush (-4), 2) := by decide +kernel
theorem dX7_difference_26 : decode cX7_difference 26 = .ok (.ireturn, 1) := by decide +kernel
theorem dX7_difference_27 : decode cX7_difference 27 = .ok (.iload_n 2, 1) := by decide +kernel
theorem dX7_difference_28 : decode cX7_difference 28 = .ok (.ifCond .ne 10, 3) := by decide +kernel
theorem dX7_difference_31 : decode cX7_difference 31 = .ok (.aload_n 0, 1) := by decide +kernel
theorem dX7_difference_32 : decode cX7_difference 32 = .ok (.getfield 120, 3) := by decide +kernel
theorem dX7_difference_35 : decode cX7_difference 35 = .ok (.goto 19, 3) := by decide +kernel
theorem dX7_difference_38 : decode cX7_difference 38 = .ok (.iload_n 2, 1) := by decide +kernel
theorem dX7_difference_39 : decode cX7_difference 39 = .ok (.iconst 1, 1) := by decide +kernel
theorem dX7_difference_40 : decode cX7_difference 40 = .ok (.if_icmp .ne 10, 3) := by decide +kernel
theorem dX7_difference_43 : decode cX7_difference 43 = .ok (.aload_n 0, 1) := by decide +kernel
theorem dX7_difference_44 : decode cX7_difference 44 = .ok (.getfield 123, 3) := by decide +kernel
theorem dX7_difference_47 : decode cX7_difference 47 = .ok (.goto 7, 3) := by decide +kernel
theorem dX7_difference_50 : decode cX7_difference 50 = .ok (.aload_n 0, 1) := by decide +kernel
theorem dX7_difference_51 : decode cX7_difference 51 = .ok (.getfield 126, 3) := by decide +kernel
theorem dX7_difference_54 : decode cX7_difference 54 = .ok (.ireturn, 1) := by decide +kernel
theorem dX7_first_0 : decode cX7_first 0 = .ok (.bipush (-4), 2) := by decide +kernel
theorem dX7_first_2 : decode cX7_first 2 = .ok (.istore_n 1, 1) := by decide +kernel
theorem dX7_first_3 : decode cX7_first 3 = .ok (.iconst 0, 1) := by decide +kernel
theorem dX7_first_4 : decode cX7_first 4 = .ok (.istore_n 2, 1) := by decide +kernel
theorem dX7_first_5 : decode cX7_first 5 = .ok (.iload_n 2, 1) := by decide +kernel
theorem dX7_first_6 : decode cX7_first 6 = .ok (.bipush 12, 2) := by decide +kernel
theorem dX7_first_8 : decode cX7_first 8 = .ok (.if_icmp .ge 83, 3) := by decide +kernel
theorem dX7_first_11 : decode cX7_first 11 = .ok (.aload_n 0, 1) := by decide +kernel
theorem dX7_first_12 : decode cX7_first 12 = .ok (.getfield 29, 3) := by decide +kernel
theorem dX7_first_15 : decode cX7_first 15 = .ok (.aload_n 0, 1) := by decide +kernel
theorem dX7_first_16 : decode cX7_first 16 = .ok (.getfield 26, 3) := by decide +kernel
theorem dX7_first_19 : decode cX7_first 19 = .ok (.iload_n 2, 1) := by decide +kernel
theorem dX7_first_20 : decode cX7_first 20 = .ok (.iaload, 1) := by decide +kernel
theorem dX7_first_21 : decode cX7_first 21 = .ok (.iaload, 1) := by decide +kernel
theorem dX7_first_22 : decode cX7_first 22 = .ok (.istore_n 3, 1) := by decide +kernel
theorem dX7_first_23 : decode cX7_first 23 = .ok (.iconst 0, 1) := by decide +kernel
theorem dX7_first_24 : decode cX7_first 24 = .ok (.istore 4, 2) := by decide +kernel
theorem dX7_first_26 : decode cX7_first 26 = .ok (.iload 4, 2) := by decide +kernel
theorem dX7_first_28 : decode cX7_first 28 = .ok (.aload_n 0, 1) := by decide +kernel
theorem dX7_first_29 : decode cX7_first 29 = .ok (.getfield 7, 3) := by decide +kernel
theorem dX7_first_32 : decode cX7_first 32 = .ok (.if_icmp .ge 27, 3) := by decide +kernel
theorem dX7_first_35 : decode cX7_first 35 = .ok (.aload_n 0, 1) := by decide +kernel
theorem dX7_first_36 : decode cX7_first 36 = .ok (.iload_n 2, 1) := by decide +kernel
theorem dX7_first_37 : decode cX7_first 37 = .ok (.iload 4, 2) := by decide +kernel
theorem dX7_first_39 : decode cX7_first 39 = .ok (.iload_n 3, 1) := by decide +kernel
theorem dX7_first_40 : decode cX7_first 40 = .ok (.invokevirtual 110, 3) := by decide +kernel
theorem dX7_first_43 : decode cX7_first 43 = .ok (.ifCond .ne 16, 3) := by decide +kernel
theorem dX7_first_46 : decode cX7_first 46 = .ok (.aload_n 0, 1) := by decide +kernel
theorem dX7_first_47 : decode cX7_first 47 = .ok (.iload_n 2, 1) := by decide +kernel
theorem dX7_first_48 : decode cX7_first 48 = .ok (.iload 4, 2) := by decide +kernel
theorem dX7_first_50 : decode cX7_first 50 = .ok (.iload_n 3, 1) := by decide +kernel
theorem dX7_first_51 : decode cX7_first 51 = .ok (.invokevirtual 117, 3) := by decide +kernel
theorem dX7_first_54 : decode cX7_first 54 = .ok (.istore 4, 2) := by decide +kernel
theorem dX7_first_56 : decode cX7_first 56 = .ok (.goto (-30), 3) := by decide +kernel
theorem dX7_first_59 : decode cX7_first 59 = .ok (.iload 4, 2) := by decide +kernel
theorem dX7_first_61 : decode cX7_first 61 = .ok (.aload_n 0, 1) := by decide +kernel
theorem dX7_first_62 : decode cX7_first 62 = .ok (.getfield 7, 3) := by decide +kernel
theorem dX7_first_65 : decode cX7_first 65 = .ok (.if_icmp .ge 18, 3) := by decide +kernel
theorem dX7_first_68 : decode cX7_first 68 = .ok (.iload_n 1, 1) := by decide +kernel
theorem dX7_first_69 : decode cX7_first 69 = .ok (.ifCond .lt 9, 3) := by decide +kernel
theorem dX7_first_72 : decode cX7_first 72 = .ok (.iload 4, 2) := by decide +kernel
theorem dX7_first_74 : decode cX7_first 74 = .ok (.iload_n 1, 1) := by decide +kernel
theorem dX7_first_75 : decode cX7_first 75 = .ok (.if_icmp .ge 8, 3) := by decide +kernel
theorem dX7_first_78 : decode cX7_first 78 = .ok (.iload 4, 2) := by decide +kernel
theorem dX7_first_80 : decode cX7_first 80 = .ok (.goto 4, 3) := by decide +kernel
theorem dX7_first_83 : decode cX7_first 83 = .ok (.iload_n 1, 1) := by decide +kernel
theorem dX7_first_84 : decode cX7_first 84 = .ok (.istore_n 1, 1) := by decide +kernel
theorem dX7_first_85 : decode cX7_first 85 = .ok (.iinc 2 1, 3) := by decide +kernel
theorem dX7_first_88 : decode cX7_first 88 = .ok (.goto (-83), 3) := by decide +kernel
theorem dX7_first_91 : decode cX7_first 91 = .ok (.iload_n 1, 1) := by decide +kernel
theorem dX7_first_92 : decode cX7_first 92 = .ok (.ireturn, 1) := by decide +kernel
theorem dX7_channel_0 : decode cX7_channel 0 = .ok (.iload_n 1, 1) := by decide +kernel
theorem dX7_channel_1 : decode cX7_channel 1 = .ok (.iconst 0, 1) := by decide +kernel
theorem dX7_channel_2 : decode cX7_channel 2 = .ok (.iconst 3, 1) := by decide +kernel
theorem dX7_channel_3 : decode cX7_channel 3 = .ok (.invokestatic 60, 3) := by decide +kernel
theorem dX7_channel_6 : decode cX7_channel 6 = .ok (.ifCond .eq 33, 3) := by decide +kernel
theorem dX7_channel_9 : decode cX7_channel 9 = .ok (.iload_n 2, 1) := by decide +kernel
theorem dX7_channel_10 : decode cX7_channel 10 = .ok (.invokestatic 64, 3) := by decide +kernel
theorem dX7_channel_13 : decode cX7_channel 13 = .ok (.ifCond .eq 26, 3) := by decide +kernel
theorem dX7_channel_16 : decode cX7_channel 16 = .ok (.iload_n 3, 1) := by decide +kernel
theorem dX7_channel_17 : decode cX7_channel 17 = .ok (.invokestatic 64, 3) := by decide +kernel
theorem dX7_channel_20 : decode cX7_channel 20 = .ok (.ifCond .eq 19, 3) := by decide +kernel
theorem dX7_channel_23 : decode cX7_channel 23 = .ok (.iload 4, 2) := by decide +kernel
theorem dX7_channel_25 : decode cX7_channel 25 = .ok (.invokestatic 64, 3) := by decide +kernel
theorem dX7_channel_28 : decode cX7_channel 28 = .ok (.ifCond .eq 11, 3) := by decide +kernel
theorem dX7_channel_31 : decode cX7_channel 31 = .ok (.iload 5, 2) := by decide +kernel
theorem dX7_channel_33 : decode cX7_channel 33 = .ok (.invokestatic 64, 3) := by decide +kernel
theorem dX7_channel_36 : decode cX7_channel 36 = .ok (.ifCond .ne 5, 3) := by decide +kernel
theorem dX7_channel_39 : decode cX7_channel 39 = .ok (.iconst (-1), 1) := by decide +kernel
theorem dX7_channel_40 : decode cX7_channel 40 = .ok (.ireturn, 1) := by decide +kernel
theorem dX7_channel_41 : decode cX7_channel 41 = .ok (.aload_n 0, 1) := by decide +kernel
theorem dX7_channel_42 : decode cX7_channel 42 = .ok (.getfield 44, 3) := by decide +kernel
theorem dX7_channel_45 : decode cX7_channel 45 = .ok (.iload_n 1, 1) := by decide +kernel
theorem dX7_channel_46 : decode cX7_channel 46 = .ok (.iconst 1, 1) := by decide +kernel
theorem dX7_channel_47 : decode cX7_channel 47 = .ok (.bastore, 1) := by decide +kernel
theorem dX7_channel_48 : decode cX7_channel 48 = .ok (.aload_n 0, 1) := by decide +kernel
theorem dX7_channel_49 : decode cX7_channel 49 = .ok (.getfield 48, 3) := by decide +kernel
theorem dX7_channel_52 : decode cX7_channel 52 = .ok (.iconst 4, 1) := by decide +kernel
theorem dX7_channel_53 : decode cX7_channel 53 = .ok (.iload_n 1, 1) := by decide +kernel
theorem dX7_channel_54 : decode cX7_channel 54 = .ok (.imul, 1) := by decide +kernel
theorem dX7_channel_55 : decode cX7_channel 55 = .ok (.iload_n 2, 1) := by decide +kernel
theorem dX7_channel_56 : decode cX7_channel 56 = .ok (.iastore, 1) := by decide +kernel
theorem dX7_channel_57 : decode cX7_channel 57 = .ok (.aload_n 0, 1) := by decide +kernel
theorem dX7_channel_58 : decode cX7_channel 58 = .ok (.getfield 48, 3) := by decide +kernel
theorem dX7_channel_61 : decode cX7_channel 61 = .ok (.iconst 4, 1) := by decide +kernel
theorem dX7_channel_62 : decode cX7_channel 62 = .ok (.iload_n 1, 1) := by decide +kernel
theorem dX7_channel_63 : decode cX7_channel 63 = .ok (.imul, 1) := by decide +kernel
theorem dX7_channel_64 : decode cX7_channel 64 = .ok (.iconst 1, 1) := by decide +kernel
theorem dX7_channel_65 : decode cX7_channel 65 = .ok (.iadd, 1) := by decide +kernel
theorem dX7_channel_66 : decode cX7_channel 66 = .ok (.iload_n 3, 1) := by decide +kernel
theorem dX7_channel_67 : decode cX7_channel 67 = .ok (.iastore, 1) := by decide +kernel
theorem dX7_channel_68 : decode cX7_channel 68 = .ok (.aload_n 0, 1) := by decide +kernel
theorem dX7_channel_69 : decode cX7_channel 69 = .ok (.getfield 48, 3) := by decide +kernel
theorem dX7_channel_72 : decode cX7_channel 72 = .ok (.iconst 4, 1) := by decide +kernel
theorem dX7_channel_73 : decode cX7_channel 73 = .ok (.iload_n 1, 1) := by decide +kernel
theorem dX7_channel_74 : decode cX7_channel 74 = .ok (.imul, 1) := by decide +kernel
theorem dX7_channel_75 : decode cX7_channel 75 = .ok (.iconst 2, 1) := by decide +kernel
theorem dX7_channel_76 : decode cX7_channel 76 = .ok (.iadd, 1) := by decide +kernel
theorem dX7_channel_77 : decode cX7_channel 77 = .ok (.iload 4, 2) := by decide +kernel
theorem dX7_channel_79 : decode cX7_channel 79 = .ok (.iastore, 1) := by decide +kernel
theorem dX7_channel_80 : decode cX7_channel 80 = .ok (.aload_n 0, 1) := by decide +kernel
theorem dX7_channel_81 : decode cX7_channel 81 = .ok (.getfield 48, 3) := by decide +kernel
theorem dX7_channel_84 : decode cX7_channel 84 = .ok (.iconst 4, 1) := by decide +kernel
theorem dX7_channel_85 : decode cX7_channel 85 = .ok (.iload_n 1, 1) := by decide +kernel
theorem dX7_channel_86 : decode cX7_channel 86 = .ok (.imul, 1) := by decide +kernel
theorem dX7_channel_87 : decode cX7_channel 87 = .ok (.iconst 3, 1) := by decide +kernel
theorem dX7_channel_88 : decode cX7_channel 88 = .ok (.iadd, 1) := by decide +kernel
theorem dX7_channel_89 : decode cX7_channel 89 = .ok (.iload 5, 2) := by decide +kernel
theorem dX7_channel_91 : decode cX7_channel 91 = .ok (.iastore, 1) := by decide +kernel
theorem dX7_channel_92 : decode cX7_channel 92 = .ok (.iconst 0, 1) := by decide +kernel
theorem dX7_channel_93 : decode cX7_channel 93 = .ok (.ireturn, 1) := by decide +kernel
theorem dX7_called_0 : decode cX7_called 0 = .ok (.iload_n 1, 1) := by decide +kernel
theorem dX7_called_1 : decode cX7_called 1 = .ok (.ifCond .ne 7, 3) := by decide +kernel
theorem dX7_called_4 : decode cX7_called 4 = .ok (.iload_n 2, 1) := by decide +kernel
theorem dX7_called_5 : decode cX7_called 5 = .ok (.goto 9, 3) := by decide +kernel
theorem dX7_called_8 : decode cX7_called 8 = .ok (.aload_n 0, 1) := by decide +kernel
theorem dX7_called_9 : decode cX7_called 9 = .ok (.getfield 23, 3) := by decide +kernel
theorem dX7_called_12 : decode cX7_called 12 = .ok (.iload_n 2, 1) := by decide +kernel
theorem dX7_called_13 : decode cX7_called 13 = .ok (.iaload, 1) := by decide +kernel
theorem dX7_called_14 : decode cX7_called 14 = .ok (.ireturn, 1) := by decide +kernel
theorem dX7_isEdge_0 : decode cX7_isEdge 0 = .ok (.iload_n 3, 1) := by decide +kernel
theorem dX7_isEdge_1 : decode cX7_isEdge 1 = .ok (.ifCond .le 31, 3) := by decide +kernel
theorem dX7_isEdge_4 : decode cX7_isEdge 4 = .ok (.aload_n 0, 1) := by decide +kernel
theorem dX7_isEdge_5 : decode cX7_isEdge 5 = .ok (.iload_n 1, 1) := by decide +kernel
theorem dX7_isEdge_6 : decode cX7_isEdge 6 = .ok (.iload_n 2, 1) := by decide +kernel
theorem dX7_isEdge_7 : decode cX7_isEdge 7 = .ok (.iload_n 3, 1) := by decide +kernel
theorem dX7_isEdge_8 : decode cX7_isEdge 8 = .ok (.invokevirtual 83, 3) := by decide +kernel
theorem dX7_isEdge_11 : decode cX7_isEdge 11 = .ok (.iconst 1, 1) := by decide +kernel
theorem dX7_isEdge_12 : decode cX7_isEdge 12 = .ok (.if_icmp .ne 20, 3) := by decide +kernel
theorem dX7_isEdge_15 : decode cX7_isEdge 15 = .ok (.aload_n 0, 1) := by decide +kernel
theorem dX7_isEdge_16 : decode cX7_isEdge 16 = .ok (.iload_n 1, 1) := by decide +kernel
theorem dX7_isEdge_17 : decode cX7_isEdge 17 = .ok (.iload_n 2, 1) := by decide +kernel
theorem dX7_isEdge_18 : decode cX7_isEdge 18 = .ok (.iload_n 3, 1) := by decide +kernel
theorem dX7_isEdge_19 : decode cX7_isEdge 19 = .ok (.iconst 1, 1) := by decide +kernel
theorem dX7_isEdge_20 : decode cX7_isEdge 20 = .ok (.isub, 1) := by decide +kernel
theorem dX7_isEdge_21 : decode cX7_isEdge 21 = .ok (.invokevirtual 83, 3) := by decide +kernel
theorem dX7_isEdge_24 : decode cX7_isEdge 24 = .ok (.iconst 1, 1) := by decide +kernel
theorem dX7_isEdge_25 : decode cX7_isEdge 25 = .ok (.if_icmp .eq 7, 3) := by decide +kernel
theorem dX7_isEdge_28 : decode cX7_isEdge 28 = .ok (.iconst 1, 1) := by decide +kernel
theorem dX7_isEdge_29 : decode cX7_isEdge 29 = .ok (.goto 4, 3) := by decide +kernel
theorem dX7_isEdge_32 : decode cX7_isEdge 32 = .ok (.iconst 0, 1) := by decide +kernel
theorem dX7_isEdge_33 : decode cX7_isEdge 33 = .ok (.ireturn, 1) := by decide +kernel
theorem dX7_acts_0 : decode cX7_acts 0 = .ok (.aload_n 0, 1) := by decide +kernel
theorem dX7_acts_1 : decode cX7_acts 1 = .ok (.iload_n 2, 1) := by decide +kernel
theorem dX7_acts_2 : decode cX7_acts 2 = .ok (.aload_n 0, 1) := by decide +kernel
theorem dX7_acts_3 : decode cX7_acts 3 = .ok (.getfield 48, 3) := by decide +kernel
theorem dX7_acts_6 : decode cX7_acts 6 = .ok (.iconst 4, 1) := by decide +kernel
theorem dX7_acts_7 : decode cX7_acts 7 = .ok (.iload_n 1, 1) := by decide +kernel
theorem dX7_acts_8 : decode cX7_acts 8 = .ok (.imul, 1) := by decide +kernel
theorem dX7_acts_9 : decode cX7_acts 9 = .ok (.iaload, 1) := by decide +kernel
theorem dX7_acts_10 : decode cX7_acts 10 = .ok (.invokevirtual 132, 3) := by decide +kernel
theorem dX7_acts_13 : decode cX7_acts 13 = .ok (.istore 4, 2) := by decide +kernel
theorem dX7_acts_15 : decode cX7_acts 15 = .ok (.iconst 0, 1) := by decide +kernel
theorem dX7_acts_16 : decode cX7_acts 16 = .ok (.istore 5, 2) := by decide +kernel
theorem dX7_acts_18 : decode cX7_acts 18 = .ok (.aload_n 0, 1) := by decide +kernel
theorem dX7_acts_19 : decode cX7_acts 19 = .ok (.iload_n 2, 1) := by decide +kernel
theorem dX7_acts_20 : decode cX7_acts 20 = .ok (.iload 4, 2) := by decide +kernel
theorem dX7_acts_22 : decode cX7_acts 22 = .ok (.iconst (-1), 1) := by decide +kernel
theorem dX7_acts_23 : decode cX7_acts 23 = .ok (.invokevirtual 103, 3) := by decide +kernel
theorem dX7_acts_26 : decode cX7_acts 26 = .ok (.istore 6, 2) := by decide +kernel
theorem dX7_acts_28 : decode cX7_acts 28 = .ok (.iload 6, 2) := by decide +kernel
theorem dX7_acts_30 : decode cX7_acts 30 = .ok (.aload_n 0, 1) := by decide +kernel
theorem dX7_acts_31 : decode cX7_acts 31 = .ok (.getfield 7, 3) := by decide +kernel
theorem dX7_acts_34 : decode cX7_acts 34 = .ok (.if_icmp .ge 152, 3) := by decide +kernel
theorem dX7_acts_37 : decode cX7_acts 37 = .ok (.aload_n 0, 1) := by decide +kernel
theorem dX7_acts_38 : decode cX7_acts 38 = .ok (.iload_n 2, 1) := by decide +kernel
theorem dX7_acts_39 : decode cX7_acts 39 = .ok (.iload 4, 2) := by decide +kernel
theorem dX7_acts_41 : decode cX7_acts 41 = .ok (.iload 6, 2) := by decide +kernel
theorem dX7_acts_43 : decode cX7_acts 43 = .ok (.invokevirtual 135, 3) := by decide +kernel
theorem dX7_acts_46 : decode cX7_acts 46 = .ok (.ifCond .eq 63, 3) := by decide +kernel
theorem dX7_acts_49 : decode cX7_acts 49 = .ok (.aload_n 0, 1) := by decide +kernel
theorem dX7_acts_50 : decode cX7_acts 50 = .ok (.iload_n 2, 1) := by decide +kernel
theorem dX7_acts_51 : decode cX7_acts 51 = .ok (.aload_n 0, 1) := by decide +kernel
theorem dX7_acts_52 : decode cX7_acts 52 = .ok (.iload_n 2, 1) := by decide +kernel
theorem dX7_acts_53 : decode cX7_acts 53 = .ok (.aload_n 0, 1) := by decide +kernel
theorem dX7_acts_54 : decode cX7_acts 54 = .ok (.getfield 48, 3) := by decide +kernel
theorem dX7_acts_57 : decode cX7_acts 57 = .ok (.iconst 4, 1) := by decide +kernel
theorem dX7_acts_58 : decode cX7_acts 58 = .ok (.iload_n 1, 1) := by decide +kernel
theorem dX7_acts_59 : decode cX7_acts 59 = .ok (.imul, 1) := by decide +kernel
theorem dX7_acts_60 : decode cX7_acts 60 = .ok (.iconst 1, 1) := by decide +kernel
theorem dX7_acts_61 : decode cX7_acts 61 = .ok (.iadd, 1) := by decide +kernel
theorem dX7_acts_62 : decode cX7_acts 62 = .ok (.iaload, 1) := by decide +kernel
theorem dX7_acts_63 : decode cX7_acts 63 = .ok (.invokevirtual 132, 3) := by decide +kernel
theorem dX7_acts_66 : decode cX7_acts 66 = .ok (.iload 6, 2) := by decide +kernel
theorem dX7_acts_68 : decode cX7_acts 68 = .ok (.iconst 1, 1) := by decide +kernel
theorem dX7_acts_69 : decode cX7_acts 69 = .ok (.isub, 1) := by decide +kernel
theorem dX7_acts_70 : decode cX7_acts 70 = .ok (.invokevirtual 83, 3) := by decide +kernel
theorem dX7_acts_73 : decode cX7_acts 73 = .ok (.iconst 1, 1) := by decide +kernel
theorem dX7_acts_74 : decode cX7_acts 74 = .ok (.if_icmp .ne 35, 3) := by decide +kernel
theorem dX7_acts_77 : decode cX7_acts 77 = .ok (.aload_n 0, 1) := by decide +kernel
theorem dX7_acts_78 : decode cX7_acts 78 = .ok (.iload_n 2, 1) := by decide +kernel
theorem dX7_acts_79 : decode cX7_acts 79 = .ok (.aload_n 0, 1) := by decide +kernel
theorem dX7_acts_80 : decode cX7_acts 80 = .ok (.iload_n 2, 1) := by decide +kernel
theorem dX7_acts_81 : decode cX7_acts 81 = .ok (.aload_n 0, 1) := by decide +kernel
theorem dX7_acts_82 : decode cX7_acts 82 = .ok (.getfield 48, 3) := by decide +kernel
theorem dX7_acts_85 : decode cX7_acts 85 = .ok (.iconst 4, 1) := by decide +kernel
theorem dX7_acts_86 : decode cX7_acts 86 = .ok (.iload_n 1, 1) := by decide +kernel
theorem dX7_acts_87 : decode cX7_acts 87 = .ok (.imul, 1) := by decide +kernel
theorem dX7_acts_88 : decode cX7_acts 88 = .ok (.iconst 2, 1) := by decide +kernel
theorem dX7_acts_89 : decode cX7_acts 89 = .ok (.iadd, 1) := by decide +kernel
theorem dX7_acts_90 : decode cX7_acts 90 = .ok (.iaload, 1) := by decide +kernel
theorem dX7_acts_91 : decode cX7_acts 91 = .ok (.invokevirtual 132, 3) := by decide +kernel
theorem dX7_acts_94 : decode cX7_acts 94 = .ok (.iload 6, 2) := by decide +kernel
theorem dX7_acts_96 : decode cX7_acts 96 = .ok (.iconst 1, 1) := by decide +kernel
theorem dX7_acts_97 : decode cX7_acts 97 = .ok (.isub, 1) := by decide +kernel
theorem dX7_acts_98 : decode cX7_acts 98 = .ok (.invokevirtual 83, 3) := by decide +kernel
theorem dX7_acts_101 : decode cX7_acts 101 = .ok (.iconst 1, 1) := by decide +kernel
theorem dX7_acts_102 : decode cX7_acts 102 = .ok (.if_icmp .ne 7, 3) := by decide +kernel
theorem dX7_acts_105 : decode cX7_acts 105 = .ok (.iconst 1, 1) := by decide +kernel
theorem dX7_acts_106 : decode cX7_acts 106 = .ok (.goto 4, 3) := by decide +kernel
theorem dX7_acts_109 : decode cX7_acts 109 = .ok (.iconst 0, 1) := by decide +kernel
theorem dX7_acts_110 : decode cX7_acts 110 = .ok (.istore 7, 2) := by decide +kernel
theorem dX7_acts_112 : decode cX7_acts 112 = .ok (.iload 7, 2) := by decide +kernel
theorem dX7_acts_114 : decode cX7_acts 114 = .ok (.ifCond .eq 43, 3) := by decide +kernel
theorem dX7_acts_117 : decode cX7_acts 117 = .ok (.iload 5, 2) := by decide +kernel
theorem dX7_acts_119 : decode cX7_acts 119 = .ok (.iload_n 3, 1) := by decide +kernel
theorem dX7_acts_120 : decode cX7_acts 120 = .ok (.if_icmp .ne 37, 3) := by decide +kernel
theorem dX7_acts_123 : decode cX7_acts 123 = .ok (.aload_n 0, 1) := by decide +kernel
theorem dX7_acts_124 : decode cX7_acts 124 = .ok (.iload 6, 2) := by decide +kernel
theorem dX7_acts_126 : decode cX7_acts 126 = .ok (.putfield 138, 3) := by decide +kernel
theorem dX7_acts_129 : decode cX7_acts 129 = .ok (.aload_n 0, 1) := by decide +kernel
theorem dX7_acts_130 : decode cX7_acts 130 = .ok (.aload_n 0, 1) := by decide +kernel
theorem dX7_acts_131 : decode cX7_acts 131 = .ok (.iload_n 2, 1) := by decide +kernel
theorem dX7_acts_132 : decode cX7_acts 132 = .ok (.aload_n 0, 1) := by decide +kernel
theorem dX7_acts_133 : decode cX7_acts 133 = .ok (.iload_n 2, 1) := by decide +kernel
theorem dX7_acts_134 : decode cX7_acts 134 = .ok (.aload_n 0, 1) := by decide +kernel
theorem dX7_acts_135 : decode cX7_acts 135 = .ok (.getfield 48, 3) := by decide +kernel
theorem dX7_acts_138 : decode cX7_acts 138 = .ok (.iconst 4, 1) := by decide +kernel
theorem dX7_acts_139 : decode cX7_acts 139 = .ok (.iload_n 1, 1) := by decide +kernel
theorem dX7_acts_140 : decode cX7_acts 140 = .ok (.imul, 1) := by decide +kernel
theorem dX7_acts_141 : decode cX7_acts 141 = .ok (.iconst 3, 1) := by decide +kernel
theorem dX7_acts_142 : decode cX7_acts 142 = .ok (.iadd, 1) := by decide +kernel
theorem dX7_acts_143 : decode cX7_acts 143 = .ok (.iaload, 1) := by decide +kernel
theorem dX7_acts_144 : decode cX7_acts 144 = .ok (.invokevirtual 132, 3) := by decide +kernel
theorem dX7_acts_147 : decode cX7_acts 147 = .ok (.iload 6, 2) := by decide +kernel
theorem dX7_acts_149 : decode cX7_acts 149 = .ok (.iconst 1, 1) := by decide +kernel
theorem dX7_acts_150 : decode cX7_acts 150 = .ok (.isub, 1) := by decide +kernel
theorem dX7_acts_151 : decode cX7_acts 151 = .ok (.invokevirtual 83, 3) := by decide +kernel
theorem dX7_acts_154 : decode cX7_acts 154 = .ok (.putfield 141, 3) := by decide +kernel
theorem dX7_acts_157 : decode cX7_acts 157 = .ok (.iload 5, 2) := by decide +kernel
theorem dX7_acts_159 : decode cX7_acts 159 = .ok (.iload 7, 2) := by decide +kernel
theorem dX7_acts_161 : decode cX7_acts 161 = .ok (.ifCond .eq 7, 3) := by decide +kernel
theorem dX7_acts_164 : decode cX7_acts 164 = .ok (.iconst 1, 1) := by decide +kernel
theorem dX7_acts_165 : decode cX7_acts 165 = .ok (.goto 4, 3) := by decide +kernel
theorem dX7_acts_168 : decode cX7_acts 168 = .ok (.iconst 0, 1) := by decide +kernel
theorem dX7_acts_169 : decode cX7_acts 169 = .ok (.iadd, 1) := by decide +kernel
theorem dX7_acts_170 : decode cX7_acts 170 = .ok (.istore 5, 2) := by decide +kernel
theorem dX7_acts_172 : decode cX7_acts 172 = .ok (.aload_n 0, 1) := by decide +kernel
theorem dX7_acts_173 : decode cX7_acts 173 = .ok (.iload_n 2, 1) := by decide +kernel
theorem dX7_acts_174 : decode cX7_acts 174 = .ok (.iload 4, 2) := by decide +kernel
theorem dX7_acts_176 : decode cX7_acts 176 = .ok (.iload 6, 2) := by decide +kernel
theorem dX7_acts_178 : decode cX7_acts 178 = .ok (.invokevirtual 103, 3) := by decide +kernel
theorem dX7_acts_181 : decode cX7_acts 181 = .ok (.istore 6, 2) := by decide +kernel
theorem dX7_acts_183 : decode cX7_acts 183 = .ok (.goto (-155), 3) := by decide +kernel
theorem dX7_acts_186 : decode cX7_acts 186 = .ok (.iload 5, 2) := by decide +kernel
theorem dX7_acts_188 : decode cX7_acts 188 = .ok (.ireturn, 1) := by decide +kernel
theorem dX7_act_0 : decode cX7_act 0 = .ok (.iload_n 1, 1) := by decide +kernel
theorem dX7_act_1 : decode cX7_act 1 = .ok (.iconst 0, 1) := by decide +kernel
theorem dX7_act_2 : decode cX7_act 2 = .ok (.iconst 3, 1) := by decide +kernel
theorem dX7_act_3 : decode cX7_act 3 = .ok (.invokestatic 60, 3) := by decide +kernel
theorem dX7_act_6 : decode cX7_act 6 = .ok (.ifCond .eq 27, 3) := by decide +kernel
theorem dX7_act_9 : decode cX7_act 9 = .ok (.iload_n 2, 1) := by decide +kernel
theorem dX7_act_10 : decode cX7_act 10 = .ok (.iconst 0, 1) := by decide +kernel
theorem dX7_act_11 : decode cX7_act 11 = .ok (.iconst 1, 1) := by decide +kernel
theorem dX7_act_12 : decode cX7_act 12 = .ok (.invokestatic 60, 3) := by decide +kernel
theorem dX7_act_15 : decode cX7_act 15 = .ok (.ifCond .eq 18, 3) := by decide +kernel
theorem dX7_act_18 : decode cX7_act 18 = .ok (.iload_n 3, 1) := by decide +kernel
theorem dX7_act_19 : decode cX7_act 19 = .ok (.iconst (-1), 1) := by decide +kernel
theorem dX7_act_20 : decode cX7_act 20 = .ok (.if_icmp .lt 13, 3) := by decide +kernel
theorem dX7_act_23 : decode cX7_act 23 = .ok (.iload 4, 2) := by decide +kernel
theorem dX7_act_25 : decode cX7_act 25 = .ok (.iconst 0, 1) := by decide +kernel
theorem dX7_act_26 : decode cX7_act 26 = .ok (.iconst 1, 1) := by decide +kernel
theorem dX7_act_27 : decode cX7_act 27 = .ok (.invokestatic 60, 3) := by decide +kernel
theorem dX7_act_30 : decode cX7_act 30 = .ok (.ifCond .ne 5, 3) := by decide +kernel
theorem dX7_act_33 : decode cX7_act 33 = .ok (.iconst (-1), 1) := by decide +kernel
theorem dX7_act_34 : decode cX7_act 34 = .ok (.ireturn, 1) := by decide +kernel
theorem dX7_act_35 : decode cX7_act 35 = .ok (.aload_n 0, 1) := by decide +kernel
theorem dX7_act_36 : decode cX7_act 36 = .ok (.getfield 44, 3) := by decide +kernel
theorem dX7_act_39 : decode cX7_act 39 = .ok (.iload_n 1, 1) := by decide +kernel
theorem dX7_act_40 : decode cX7_act 40 = .ok (.baload, 1) := by decide +kernel
theorem dX7_act_41 : decode cX7_act 41 = .ok (.ifCond .ne 6, 3) := by decide +kernel
theorem dX7_act_44 : decode cX7_act 44 = .ok (.bipush (-2), 2) := by decide +kernel
theorem dX7_act_46 : decode cX7_act 46 = .ok (.ireturn, 1) := by decide +kernel
theorem dX7_act_47 : decode cX7_act 47 = .ok (.aload_n 0, 1) := by decide +kernel
theorem dX7_act_48 : decode cX7_act 48 = .ok (.iload_n 1, 1) := by decide +kernel
theorem dX7_act_49 : decode cX7_act 49 = .ok (.iload_n 2, 1) := by decide +kernel
theorem dX7_act_50 : decode cX7_act 50 = .ok (.iload_n 3, 1) := by decide +kernel
theorem dX7_act_51 : decode cX7_act 51 = .ok (.invokevirtual 144, 3) := by decide +kernel
theorem dX7_act_54 : decode cX7_act 54 = .ok (.istore 5, 2) := by decide +kernel
theorem dX7_act_56 : decode cX7_act 56 = .ok (.iload_n 3, 1) := by decide +kernel
theorem dX7_act_57 : decode cX7_act 57 = .ok (.ifCond .ge 8, 3) := by decide +kernel
theorem dX7_act_60 : decode cX7_act 60 = .ok (.iload 5, 2) := by decide +kernel
theorem dX7_act_62 : decode cX7_act 62 = .ok (.goto 30, 3) := by decide +kernel
theorem dX7_act_65 : decode cX7_act 65 = .ok (.iload_n 3, 1) := by decide +kernel
theorem dX7_act_66 : decode cX7_act 66 = .ok (.iload 5, 2) := by decide +kernel
theorem dX7_act_68 : decode cX7_act 68 = .ok (.if_icmp .lt 8, 3) := by decide +kernel
theorem dX7_act_71 : decode cX7_act 71 = .ok (.bipush (-4), 2) := by decide +kernel
theorem dX7_act_73 : decode cX7_act 73 = .ok (.goto 19, 3) := by decide +kernel
theorem dX7_act_76 : decode cX7_act 76 = .ok (.iload 4, 2) := by decide +kernel
theorem dX7_act_78 : decode cX7_act 78 = .ok (.ifCond .ne 10, 3) := by decide +kernel
theorem dX7_act_81 : decode cX7_act 81 = .ok (.aload_n 0, 1) := by decide +kernel
theorem dX7_act_82 : decode cX7_act 82 = .ok (.getfield 138, 3) := by decide +kernel
theorem dX7_act_85 : decode cX7_act 85 = .ok (.goto 7, 3) := by decide +kernel
theorem dX7_act_88 : decode cX7_act 88 = .ok (.aload_n 0, 1) := by decide +kernel
theorem dX7_act_89 : decode cX7_act 89 = .ok (.getfield 141, 3) := by decide +kernel
theorem dX7_act_92 : decode cX7_act 92 = .ok (.ireturn, 1) := by decide +kernel
theorem dX7_unlike_0 : decode cX7_unlike 0 = .ok (.iload_n 1, 1) := by decide +kernel
theorem dX7_unlike_1 : decode cX7_unlike 1 = .ok (.iconst 0, 1) := by decide +kernel
theorem dX7_unlike_2 : decode cX7_unlike 2 = .ok (.iconst 3, 1) := by decide +kernel
theorem dX7_unlike_3 : decode cX7_unlike 3 = .ok (.invokestatic 60, 3) := by decide +kernel
theorem dX7_unlike_6 : decode cX7_unlike 6 = .ok (.ifCond .ne 5, 3) := by decide +kernel
theorem dX7_unlike_9 : decode cX7_unlike 9 = .ok (.iconst (-1), 1) := by decide +kernel
theorem dX7_unlike_10 : decode cX7_unlike 10 = .ok (.ireturn, 1) := by decide +kernel
theorem dX7_unlike_11 : decode cX7_unlike 11 = .ok (.aload_n 0, 1) := by decide +kernel
theorem dX7_unlike_12 : decode cX7_unlike 12 = .ok (.getfield 44, 3) := by decide +kernel
theorem dX7_unlike_15 : decode cX7_unlike 15 = .ok (.iload_n 1, 1) := by decide +kernel
theorem dX7_unlike_16 : decode cX7_unlike 16 = .ok (.baload, 1) := by decide +kernel
theorem dX7_unlike_17 : decode cX7_unlike 17 = .ok (.ifCond .ne 6, 3) := by decide +kernel
theorem dX7_unlike_20 : decode cX7_unlike 20 = .ok (.bipush (-2), 2) := by decide +kernel
theorem dX7_unlike_22 : decode cX7_unlike 22 = .ok (.ireturn, 1) := by decide +kernel
theorem dX7_unlike_23 : decode cX7_unlike 23 = .ok (.aload_n 0, 1) := by decide +kernel
theorem dX7_unlike_24 : decode cX7_unlike 24 = .ok (.iload_n 1, 1) := by decide +kernel
theorem dX7_unlike_25 : decode cX7_unlike 25 = .ok (.iconst 0, 1) := by decide +kernel
theorem dX7_unlike_26 : decode cX7_unlike 26 = .ok (.iconst (-1), 1) := by decide +kernel
theorem dX7_unlike_27 : decode cX7_unlike 27 = .ok (.invokevirtual 144, 3) := by decide +kernel
theorem dX7_unlike_30 : decode cX7_unlike 30 = .ok (.istore_n 2, 1) := by decide +kernel
theorem dX7_unlike_31 : decode cX7_unlike 31 = .ok (.aload_n 0, 1) := by decide +kernel
theorem dX7_unlike_32 : decode cX7_unlike 32 = .ok (.iload_n 1, 1) := by decide +kernel
theorem dX7_unlike_33 : decode cX7_unlike 33 = .ok (.iconst 1, 1) := by decide +kernel
theorem dX7_unlike_34 : decode cX7_unlike 34 = .ok (.iconst (-1), 1) := by decide +kernel
theorem dX7_unlike_35 : decode cX7_unlike 35 = .ok (.invokevirtual 144, 3) := by decide +kernel
theorem dX7_unlike_38 : decode cX7_unlike 38 = .ok (.istore_n 3, 1) := by decide +kernel
theorem dX7_unlike_39 : decode cX7_unlike 39 = .ok (.iconst 0, 1) := by decide +kernel
theorem dX7_unlike_40 : decode cX7_unlike 40 = .ok (.istore 4, 2) := by decide +kernel
theorem dX7_unlike_42 : decode cX7_unlike 42 = .ok (.iload 4, 2) := by decide +kernel
theorem dX7_unlike_44 : decode cX7_unlike 44 = .ok (.iload_n 2, 1) := by decide +kernel
theorem dX7_unlike_45 : decode cX7_unlike 45 = .ok (.if_icmp .lt 9, 3) := by decide +kernel
theorem dX7_unlike_48 : decode cX7_unlike 48 = .ok (.iload 4, 2) := by decide +kernel
theorem dX7_unlike_50 : decode cX7_unlike 50 = .ok (.iload_n 3, 1) := by decide +kernel
theorem dX7_unlike_51 : decode cX7_unlike 51 = .ok (.if_icmp .ge 66, 3) := by decide +kernel
theorem dX7_unlike_54 : decode cX7_unlike 54 = .ok (.iload 4, 2) := by decide +kernel
theorem dX7_unlike_56 : decode cX7_unlike 56 = .ok (.iload_n 2, 1) := by decide +kernel
theorem dX7_unlike_57 : decode cX7_unlike 57 = .ok (.if_icmp .ge 9, 3) := by decide +kernel
theorem dX7_unlike_60 : decode cX7_unlike 60 = .ok (.iload 4, 2) := by decide +kernel
theorem dX7_unlike_62 : decode cX7_unlike 62 = .ok (.iload_n 3, 1) := by decide +kernel
theorem dX7_unlike_63 : decode cX7_unlike 63 = .ok (.if_icmp .lt 6, 3) := by decide +kernel
theorem dX7_unlike_66 : decode cX7_unlike 66 = .ok (.iload 4, 2) := by decide +kernel
theorem dX7_unlike_68 : decode cX7_unlike 68 = .ok (.ireturn, 1) := by decide +kernel
theorem dX7_unlike_69 : decode cX7_unlike 69 = .ok (.aload_n 0, 1) := by decide +kernel
theorem dX7_unlike_70 : decode cX7_unlike 70 = .ok (.iload_n 1, 1) := by decide +kernel
theorem dX7_unlike_71 : decode cX7_unlike 71 = .ok (.iconst 0, 1) := by decide +kernel
theorem dX7_unlike_72 : decode cX7_unlike 72 = .ok (.iload 4, 2) := by decide +kernel
theorem dX7_unlike_74 : decode cX7_unlike 74 = .ok (.invokevirtual 144, 3) := by decide +kernel
theorem dX7_unlike_77 : decode cX7_unlike 77 = .ok (.istore 5, 2) := by decide +kernel
theorem dX7_unlike_79 : decode cX7_unlike 79 = .ok (.aload_n 0, 1) := by decide +kernel
theorem dX7_unlike_80 : decode cX7_unlike 80 = .ok (.getfield 141, 3) := by decide +kernel
theorem dX7_unlike_83 : decode cX7_unlike 83 = .ok (.istore 6, 2) := by decide +kernel
theorem dX7_unlike_85 : decode cX7_unlike 85 = .ok (.aload_n 0, 1) := by decide +kernel
theorem dX7_unlike_86 : decode cX7_unlike 86 = .ok (.iload_n 1, 1) := by decide +kernel
theorem dX7_unlike_87 : decode cX7_unlike 87 = .ok (.iconst 1, 1) := by decide +kernel
theorem dX7_unlike_88 : decode cX7_unlike 88 = .ok (.iload 4, 2) := by decide +kernel
theorem dX7_unlike_90 : decode cX7_unlike 90 = .ok (.invokevirtual 144, 3) := by decide +kernel
theorem dX7_unlike_93 : decode cX7_unlike 93 = .ok (.istore 5, 2) := by decide +kernel
theorem dX7_unlike_95 : decode cX7_unlike 95 = .ok (.aload_n 0, 1) := by decide +kernel
theorem dX7_unlike_96 : decode cX7_unlike 96 = .ok (.iload 6, 2) := by decide +kernel
theorem dX7_unlike_98 : decode cX7_unlike 98 = .ok (.aload_n 0, 1) := by decide +kernel
theorem dX7_unlike_99 : decode cX7_unlike 99 = .ok (.getfield 141, 3) := by decide +kernel
theorem dX7_unlike_102 : decode cX7_unlike 102 = .ok (.invokevirtual 97, 3) := by decide +kernel
theorem dX7_unlike_105 : decode cX7_unlike 105 = .ok (.ifCond .ne 6, 3) := by decide +kernel
theorem dX7_unlike_108 : decode cX7_unlike 108 = .ok (.iload 4, 2) := by decide +kernel
theorem dX7_unlike_110 : decode cX7_unlike 110 = .ok (.ireturn, 1) := by decide +kernel
theorem dX7_unlike_111 : decode cX7_unlike 111 = .ok (.iinc 4 1, 3) := by decide +kernel
theorem dX7_unlike_114 : decode cX7_unlike 114 = .ok (.goto (-72), 3) := by decide +kernel
theorem dX7_unlike_117 : decode cX7_unlike 117 = .ok (.bipush (-4), 2) := by decide +kernel
theorem dX7_unlike_119 : decode cX7_unlike 119 = .ok (.ireturn, 1) := by decide +kernel
theorem dX7_fits_0 : decode cX7_fits 0 = .ok (.iload_n 2, 1) := by decide +kernel
theorem dX7_fits_1 : decode cX7_fits 1 = .ok (.ifCond .ge 8, 3) := by decide +kernel
theorem dX7_fits_4 : decode cX7_fits 4 = .ok (.iload_n 2, 1) := by decide +kernel
theorem dX7_fits_5 : decode cX7_fits 5 = .ok (.ineg, 1) := by decide +kernel
theorem dX7_fits_6 : decode cX7_fits 6 = .ok (.goto 4, 3) := by decide +kernel
theorem dX7_fits_9 : decode cX7_fits 9 = .ok (.iconst 0, 1) := by decide +kernel
theorem dX7_fits_10 : decode cX7_fits 10 = .ok (.istore_n 3, 1) := by decide +kernel
theorem dX7_fits_11 : decode cX7_fits 11 = .ok (.iload_n 2, 1) := by decide +kernel
theorem dX7_fits_12 : decode cX7_fits 12 = .ok (.ifCond .le 12, 3) := by decide +kernel
theorem dX7_fits_15 : decode cX7_fits 15 = .ok (.aload_n 0, 1) := by decide +kernel
theorem dX7_fits_16 : decode cX7_fits 16 = .ok (.getfield 7, 3) := by decide +kernel
theorem dX7_fits_19 : decode cX7_fits 19 = .ok (.iload_n 2, 1) := by decide +kernel
theorem dX7_fits_20 : decode cX7_fits 20 = .ok (.isub, 1) := by decide +kernel
theorem dX7_fits_21 : decode cX7_fits 21 = .ok (.goto 7, 3) := by decide +kernel
theorem dX7_fits_24 : decode cX7_fits 24 = .ok (.aload_n 0, 1) := by decide +kernel
theorem dX7_fits_25 : decode cX7_fits 25 = .ok (.getfield 7, 3) := by decide +kernel
theorem dX7_fits_28 : decode cX7_fits 28 = .ok (.istore 4, 2) := by decide +kernel
theorem dX7_fits_30 : decode cX7_fits 30 = .ok (.iload_n 3, 1) := by decide +kernel
theorem dX7_fits_31 : decode cX7_fits 31 = .ok (.iload 4, 2) := by decide +kernel
theorem dX7_fits_33 : decode cX7_fits 33 = .ok (.if_icmp .ge 7, 3) := by decide +kernel
theorem dX7_fits_36 : decode cX7_fits 36 = .ok (.iconst 1, 1) := by decide +kernel
theorem dX7_fits_37 : decode cX7_fits 37 = .ok (.goto 4, 3) := by decide +kernel
theorem dX7_fits_40 : decode cX7_fits 40 = .ok (.iconst 0, 1) := by decide +kernel
theorem dX7_fits_41 : decode cX7_fits 41 = .ok (.istore 5, 2) := by decide +kernel
theorem dX7_fits_43 : decode cX7_fits 43 = .ok (.iconst 0, 1) := by decide +kernel
theorem dX7_fits_44 : decode cX7_fits 44 = .ok (.istore 6, 2) := by decide +kernel
theorem dX7_fits_46 : decode cX7_fits 46 = .ok (.iload 6, 2) := by decide +kernel
theorem dX7_fits_48 : decode cX7_fits 48 = .ok (.bipush 12, 2) := by decide +kernel
theorem dX7_fits_50 : decode cX7_fits 50 = .ok (.if_icmp .ge 73, 3) := by decide +kernel
theorem dX7_fits_53 : decode cX7_fits 53 = .ok (.iload 5, 2) := by decide +kernel
theorem dX7_fits_55 : decode cX7_fits 55 = .ok (.ifCond .eq 68, 3) := by decide +kernel
theorem dX7_fits_58 : decode cX7_fits 58 = .ok (.iload_n 3, 1) := by decide +kernel
theorem dX7_fits_59 : decode cX7_fits 59 = .ok (.istore 7, 2) := by decide +kernel
theorem dX7_fits_61 : decode cX7_fits 61 = .ok (.iload 7, 2) := by decide +kernel
theorem dX7_fits_63 : decode cX7_fits 63 = .ok (.iload 4, 2) := by decide +kernel
theorem dX7_fits_65 : decode cX7_fits 65 = .ok (.if_icmp .ge 52, 3) := by decide +kernel
theorem dX7_fits_68 : decode cX7_fits 68 = .ok (.iload 5, 2) := by decide +kernel
theorem dX7_fits_70 : decode cX7_fits 70 = .ok (.ifCond .eq 47, 3) := by decide +kernel
theorem dX7_fits_73 : decode cX7_fits 73 = .ok (.aload_n 0, 1) := by decide +kernel
theorem dX7_fits_74 : decode cX7_fits 74 = .ok (.getfield 26, 3) := by decide +kernel
theorem dX7_fits_77 : decode cX7_fits 77 = .ok (.iload 6, 2) := by decide +kernel
theorem dX7_fits_79 : decode cX7_fits 79 = .ok (.iaload, 1) := by decide +kernel
theorem dX7_fits_80 : decode cX7_fits 80 = .ok (.iload_n 1, 1) := by decide +kernel
theorem dX7_fits_81 : decode cX7_fits 81 = .ok (.if_icmp .ne 36, 3) := by decide +kernel
theorem dX7_fits_84 : decode cX7_fits 84 = .ok (.aload_n 0, 1) := by decide +kernel
theorem dX7_fits_85 : decode cX7_fits 85 = .ok (.iload 6, 2) := by decide +kernel
theorem dX7_fits_87 : decode cX7_fits 87 = .ok (.iload 7, 2) := by decide +kernel
theorem dX7_fits_89 : decode cX7_fits 89 = .ok (.iload_n 2, 1) := by decide +kernel
theorem dX7_fits_90 : decode cX7_fits 90 = .ok (.invokevirtual 110, 3) := by decide +kernel
theorem dX7_fits_93 : decode cX7_fits 93 = .ok (.ifCond .ne 7, 3) := by decide +kernel
theorem dX7_fits_96 : decode cX7_fits 96 = .ok (.iconst 1, 1) := by decide +kernel
theorem dX7_fits_97 : decode cX7_fits 97 = .ok (.goto 4, 3) := by decide +kernel
theorem dX7_fits_100 : decode cX7_fits 100 = .ok (.iconst 0, 1) := by decide +kernel
theorem dX7_fits_101 : decode cX7_fits 101 = .ok (.istore 5, 2) := by decide +kernel
theorem dX7_fits_103 : decode cX7_fits 103 = .ok (.aload_n 0, 1) := by decide +kernel
theorem dX7_fits_104 : decode cX7_fits 104 = .ok (.iload 6, 2) := by decide +kernel
theorem dX7_fits_106 : decode cX7_fits 106 = .ok (.iload 7, 2) := by decide +kernel
theorem dX7_fits_108 : decode cX7_fits 108 = .ok (.iload_n 2, 1) := by decide +kernel
theorem dX7_fits_109 : decode cX7_fits 109 = .ok (.invokevirtual 117, 3) := by decide +kernel
theorem dX7_fits_112 : decode cX7_fits 112 = .ok (.istore 7, 2) := by decide +kernel
theorem dX7_fits_114 : decode cX7_fits 114 = .ok (.goto (-53), 3) := by decide +kernel
theorem dX7_fits_117 : decode cX7_fits 117 = .ok (.iinc 6 1, 3) := by decide +kernel
theorem dX7_fits_120 : decode cX7_fits 120 = .ok (.goto (-74), 3) := by decide +kernel
theorem dX7_fits_123 : decode cX7_fits 123 = .ok (.iload 5, 2) := by decide +kernel
theorem dX7_fits_125 : decode cX7_fits 125 = .ok (.ireturn, 1) := by decide +kernel
theorem dX7_fit_0 : decode cX7_fit 0 = .ok (.iload_n 1, 1) := by decide +kernel
theorem dX7_fit_1 : decode cX7_fit 1 = .ok (.iconst 0, 1) := by decide +kernel
theorem dX7_fit_2 : decode cX7_fit 2 = .ok (.iconst 3, 1) := by decide +kernel
theorem dX7_fit_3 : decode cX7_fit 3 = .ok (.invokestatic 60, 3) := by decide +kernel
theorem dX7_fit_6 : decode cX7_fit 6 = .ok (.ifCond .ne 7, 3) := by decide +kernel
theorem dX7_fit_9 : decode cX7_fit 9 = .ok (.sipush (-1001), 3) := by decide +kernel
theorem dX7_fit_12 : decode cX7_fit 12 = .ok (.ireturn, 1) := by decide +kernel
theorem dX7_fit_13 : decode cX7_fit 13 = .ok (.iconst 0, 1) := by decide +kernel
theorem dX7_fit_14 : decode cX7_fit 14 = .ok (.istore_n 2, 1) := by decide +kernel
theorem dX7_fit_15 : decode cX7_fit 15 = .ok (.iconst 0, 1) := by decide +kernel
theorem dX7_fit_16 : decode cX7_fit 16 = .ok (.istore_n 3, 1) := by decide +kernel
theorem dX7_fit_17 : decode cX7_fit 17 = .ok (.iload_n 3, 1) := by decide +kernel
theorem dX7_fit_18 : decode cX7_fit 18 = .ok (.bipush 12, 2) := by decide +kernel
theorem dX7_fit_20 : decode cX7_fit 20 = .ok (.if_icmp .ge 29, 3) := by decide +kernel
theorem dX7_fit_23 : decode cX7_fit 23 = .ok (.iload_n 2, 1) := by decide +kernel
theorem dX7_fit_24 : decode cX7_fit 24 = .ok (.ifCond .ne 13, 3) := by decide +kernel
theorem dX7_fit_27 : decode cX7_fit 27 = .ok (.aload_n 0, 1) := by decide +kernel
theorem dX7_fit_28 : decode cX7_fit 28 = .ok (.getfield 26, 3) := by decide +kernel
theorem dX7_fit_31 : decode cX7_fit 31 = .ok (.iload_n 3, 1) := by decide +kernel
theorem dX7_fit_32 : decode cX7_fit 32 = .ok (.iaload, 1) := by decide +kernel
theorem dX7_fit_33 : decode cX7_fit 33 = .ok (.iload_n 1, 1) := by decide +kernel
theorem dX7_fit_34 : decode cX7_fit 34 = .ok (.if_icmp .ne 7, 3) := by decide +kernel
theorem dX7_fit_37 : decode cX7_fit 37 = .ok (.iconst 1, 1) := by decide +kernel
theorem dX7_fit_38 : decode cX7_fit 38 = .ok (.goto 4, 3) := by decide +kernel
theorem dX7_fit_41 : decode cX7_fit 41 = .ok (.iconst 0, 1) := by decide +kernel
theorem dX7_fit_42 : decode cX7_fit 42 = .ok (.istore_n 2, 1) := by decide +kernel
theorem dX7_fit_43 : decode cX7_fit 43 = .ok (.iinc 3 1, 3) := by decide +kernel
theorem dX7_fit_46 : decode cX7_fit 46 = .ok (.goto (-29), 3) := by decide +kernel
theorem dX7_fit_49 : decode cX7_fit 49 = .ok (.iload_n 2, 1) := by decide +kernel
theorem dX7_fit_50 : decode cX7_fit 50 = .ok (.ifCond .ne 7, 3) := by decide +kernel
theorem dX7_fit_53 : decode cX7_fit 53 = .ok (.sipush (-1002), 3) := by decide +kernel
theorem dX7_fit_56 : decode cX7_fit 56 = .ok (.ireturn, 1) := by decide +kernel
theorem dX7_fit_57 : decode cX7_fit 57 = .ok (.iconst 0, 1) := by decide +kernel
theorem dX7_fit_58 : decode cX7_fit 58 = .ok (.istore_n 3, 1) := by decide +kernel
theorem dX7_fit_59 : decode cX7_fit 59 = .ok (.iload_n 3, 1) := by decide +kernel
theorem dX7_fit_60 : decode cX7_fit 60 = .ok (.bipush 50, 2) := by decide +kernel
theorem dX7_fit_62 : decode cX7_fit 62 = .ok (.if_icmp .gt 33, 3) := by decide +kernel
theorem dX7_fit_65 : decode cX7_fit 65 = .ok (.aload_n 0, 1) := by decide +kernel
theorem dX7_fit_66 : decode cX7_fit 66 = .ok (.iload_n 1, 1) := by decide +kernel
theorem dX7_fit_67 : decode cX7_fit 67 = .ok (.iload_n 3, 1) := by decide +kernel
theorem dX7_fit_68 : decode cX7_fit 68 = .ok (.ineg, 1) := by decide +kernel
theorem dX7_fit_69 : decode cX7_fit 69 = .ok (.invokevirtual 147, 3) := by decide +kernel
theorem dX7_fit_72 : decode cX7_fit 72 = .ok (.ifCond .eq 6, 3) := by decide +kernel
theorem dX7_fit_75 : decode cX7_fit 75 = .ok (.iload_n 3, 1) := by decide +kernel
theorem dX7_fit_76 : decode cX7_fit 76 = .ok (.ineg, 1) := by decide +kernel
theorem dX7_fit_77 : decode cX7_fit 77 = .ok (.ireturn, 1) := by decide +kernel
theorem dX7_fit_78 : decode cX7_fit 78 = .ok (.aload_n 0, 1) := by decide +kernel
theorem dX7_fit_79 : decode cX7_fit 79 = .ok (.iload_n 1, 1) := by decide +kernel
theorem dX7_fit_80 : decode cX7_fit 80 = .ok (.iload_n 3, 1) := by decide +kernel
theorem dX7_fit_81 : decode cX7_fit 81 = .ok (.invokevirtual 147, 3) := by decide +kernel
theorem dX7_fit_84 : decode cX7_fit 84 = .ok (.ifCond .eq 5, 3) := by decide +kernel
theorem dX7_fit_87 : decode cX7_fit 87 = .ok (.iload_n 3, 1) := by decide +kernel
theorem dX7_fit_88 : decode cX7_fit 88 = .ok (.ireturn, 1) := by decide +kernel
theorem dX7_fit_89 : decode cX7_fit 89 = .ok (.iinc 3 1, 3) := by decide +kernel
theorem dX7_fit_92 : decode cX7_fit 92 = .ok (.goto (-33), 3) := by decide +kernel
theorem dX7_fit_95 : decode cX7_fit 95 = .ok (.sipush (-1004), 3) := by decide +kernel
theorem dX7_fit_98 : decode cX7_fit 98 = .ok (.ireturn, 1) := by decide +kernel
theorem dX7_gate_0 : decode cX7_gate 0 = .ok (.iload_n 1, 1) := by decide +kernel
theorem dX7_gate_1 : decode cX7_gate 1 = .ok (.invokestatic 64, 3) := by decide +kernel
theorem dX7_gate_4 : decode cX7_gate 4 = .ok (.ifCond .eq 48, 3) := by decide +kernel
theorem dX7_gate_7 : decode cX7_gate 7 = .ok (.iload_n 2, 1) := by decide +kernel
theorem dX7_gate_8 : decode cX7_gate 8 = .ok (.iconst 0, 1) := by decide +kernel
theorem dX7_gate_9 : decode cX7_gate 9 = .ok (.bipush 6, 2) := by decide +kernel
theorem dX7_gate_11 : decode cX7_gate 11 = .ok (.invokestatic 60, 3) := by decide +kernel
theorem dX7_gate_14 : decode cX7_gate 14 = .ok (.ifCond .eq 38, 3) := by decide +kernel
theorem dX7_gate_17 : decode cX7_gate 17 = .ok (.iload_n 2, 1) := by decide +kernel
theorem dX7_gate_18 : decode cX7_gate 18 = .ok (.ifCond .le 15, 3) := by decide +kernel
theorem dX7_gate_21 : decode cX7_gate 21 = .ok (.iload_n 3, 1) := by decide +kernel
theorem dX7_gate_22 : decode cX7_gate 22 = .ok (.invokestatic 64, 3) := by decide +kernel
theorem dX7_gate_25 : decode cX7_gate 25 = .ok (.ifCond .eq 27, 3) := by decide +kernel
theorem dX7_gate_28 : decode cX7_gate 28 = .ok (.iload_n 3, 1) := by decide +kernel
theorem dX7_gate_29 : decode cX7_gate 29 = .ok (.iload_n 1, 1) := by decide +kernel
theorem dX7_gate_30 : decode cX7_gate 30 = .ok (.if_icmp .eq 22, 3) := by decide +kernel
theorem dX7_gate_33 : decode cX7_gate 33 = .ok (.iload_n 2, 1) := by decide +kernel
theorem dX7_gate_34 : decode cX7_gate 34 = .ok (.iconst 1, 1) := by decide +kernel
theorem dX7_gate_35 : decode cX7_gate 35 = .ok (.if_icmp .le 19, 3) := by decide +kernel
theorem dX7_gate_38 : decode cX7_gate 38 = .ok (.iload 4, 2) := by decide +kernel
theorem dX7_gate_40 : decode cX7_gate 40 = .ok (.invokestatic 64, 3) := by decide +kernel
theorem dX7_gate_43 : decode cX7_gate 43 = .ok (.ifCond .eq 9, 3) := by decide +kernel
theorem dX7_gate_46 : decode cX7_gate 46 = .ok (.iload 4, 2) := by decide +kernel
theorem dX7_gate_48 : decode cX7_gate 48 = .ok (.iload_n 1, 1) := by decide +kernel
theorem dX7_gate_49 : decode cX7_gate 49 = .ok (.if_icmp .ne 5, 3) := by decide +kernel
theorem dX7_gate_52 : decode cX7_gate 52 = .ok (.iconst (-1), 1) := by decide +kernel
theorem dX7_gate_53 : decode cX7_gate 53 = .ok (.ireturn, 1) := by decide +kernel
theorem dX7_gate_54 : decode cX7_gate 54 = .ok (.aload_n 0, 1) := by decide +kernel
theorem dX7_gate_55 : decode cX7_gate 55 = .ok (.getfield 51, 3) := by decide +kernel
theorem dX7_gate_58 : decode cX7_gate 58 = .ok (.iload_n 1, 1) := by decide +kernel
theorem dX7_gate_59 : decode cX7_gate 59 = .ok (.iaload, 1) := by decide +kernel
theorem dX7_gate_60 : decode cX7_gate 60 = .ok (.istore 5, 2) := by decide +kernel
theorem dX7_gate_62 : decode cX7_gate 62 = .ok (.aload_n 0, 1) := by decide +kernel
theorem dX7_gate_63 : decode cX7_gate 63 = .ok (.getfield 51, 3) := by decide +kernel
theorem dX7_gate_66 : decode cX7_gate 66 = .ok (.iload_n 1, 1) := by decide +kernel
theorem dX7_gate_67 : decode cX7_gate 67 = .ok (.iload_n 2, 1) := by decide +kernel
theorem dX7_gate_68 : decode cX7_gate 68 = .ok (.iastore, 1) := by decide +kernel
theorem dX7_gate_69 : decode cX7_gate 69 = .ok (.aload_n 0, 1) := by decide +kernel
theorem dX7_gate_70 : decode cX7_gate 70 = .ok (.getfield 54, 3) := by decide +kernel
theorem dX7_gate_73 : decode cX7_gate 73 = .ok (.iload_n 1, 1) := by decide +kernel
theorem dX7_gate_74 : decode cX7_gate 74 = .ok (.iload_n 3, 1) := by decide +kernel
theorem dX7_gate_75 : decode cX7_gate 75 = .ok (.iastore, 1) := by decide +kernel
theorem dX7_gate_76 : decode cX7_gate 76 = .ok (.aload_n 0, 1) := by decide +kernel
theorem dX7_gate_77 : decode cX7_gate 77 = .ok (.getfield 57, 3) := by decide +kernel
theorem dX7_gate_80 : decode cX7_gate 80 = .ok (.iload_n 1, 1) := by decide +kernel
theorem dX7_gate_81 : decode cX7_gate 81 = .ok (.iload 4, 2) := by decide +kernel
theorem dX7_gate_83 : decode cX7_gate 83 = .ok (.iastore, 1) := by decide +kernel
theorem dX7_gate_84 : decode cX7_gate 84 = .ok (.iload 5, 2) := by decide +kernel
theorem dX7_gate_86 : decode cX7_gate 86 = .ok (.ireturn, 1) := by decide +kernel
theorem dX7_agreeAt_0 : decode cX7_agreeAt 0 = .ok (.aload_n 0, 1) := by decide +kernel
theorem dX7_agreeAt_1 : decode cX7_agreeAt 1 = .ok (.aload_n 0, 1) := by decide +kernel
theorem dX7_agreeAt_2 : decode cX7_agreeAt 2 = .ok (.iconst 0, 1) := by decide +kernel
theorem dX7_agreeAt_3 : decode cX7_agreeAt 3 = .ok (.iload_n 1, 1) := by decide +kernel
theorem dX7_agreeAt_4 : decode cX7_agreeAt 4 = .ok (.iload_n 2, 1) := by decide +kernel
theorem dX7_agreeAt_5 : decode cX7_agreeAt 5 = .ok (.invokevirtual 83, 3) := by decide +kernel
theorem dX7_agreeAt_8 : decode cX7_agreeAt 8 = .ok (.aload_n 0, 1) := by decide +kernel
theorem dX7_agreeAt_9 : decode cX7_agreeAt 9 = .ok (.iconst 1, 1) := by decide +kernel
theorem dX7_agreeAt_10 : decode cX7_agreeAt 10 = .ok (.aload_n 0, 1) := by decide +kernel
theorem dX7_agreeAt_11 : decode cX7_agreeAt 11 = .ok (.getfield 23, 3) := by decide +kernel
theorem dX7_agreeAt_14 : decode cX7_agreeAt 14 = .ok (.iload_n 1, 1) := by decide +kernel
theorem dX7_agreeAt_15 : decode cX7_agreeAt 15 = .ok (.iaload, 1) := by decide +kernel
theorem dX7_agreeAt_16 : decode cX7_agreeAt 16 = .ok (.iload_n 2, 1) := by decide +kernel
theorem dX7_agreeAt_17 : decode cX7_agreeAt 17 = .ok (.invokevirtual 83, 3) := by decide +kernel
theorem dX7_agreeAt_20 : decode cX7_agreeAt 20 = .ok (.invokevirtual 97, 3) := by decide +kernel
theorem dX7_agreeAt_23 : decode cX7_agreeAt 23 = .ok (.ireturn, 1) := by decide +kernel
theorem dX7_edge_0 : decode cX7_edge 0 = .ok (.iconst (-1), 1) := by decide +kernel
theorem dX7_edge_1 : decode cX7_edge 1 = .ok (.istore 4, 2) := by decide +kernel
theorem dX7_edge_3 : decode cX7_edge 3 = .ok (.aload_n 0, 1) := by decide +kernel
theorem dX7_edge_4 : decode cX7_edge 4 = .ok (.iload_n 1, 1) := by decide +kernel
theorem dX7_edge_5 : decode cX7_edge 5 = .ok (.iload_n 2, 1) := by decide +kernel
theorem dX7_edge_6 : decode cX7_edge 6 = .ok (.iconst (-1), 1) := by decide +kernel
theorem dX7_edge_7 : decode cX7_edge 7 = .ok (.invokevirtual 103, 3) := by decide +kernel
theorem dX7_edge_10 : decode cX7_edge 10 = .ok (.istore 5, 2) := by decide +kernel
theorem dX7_edge_12 : decode cX7_edge 12 = .ok (.iload 5, 2) := by decide +kernel
theorem dX7_edge_14 : decode cX7_edge 14 = .ok (.iload_n 3, 1) := by decide +kernel
theorem dX7_edge_15 : decode cX7_edge 15 = .ok (.if_icmp .gt 36, 3) := by decide +kernel
theorem dX7_edge_18 : decode cX7_edge 18 = .ok (.aload_n 0, 1) := by decide +kernel
theorem dX7_edge_19 : decode cX7_edge 19 = .ok (.iload_n 1, 1) := by decide +kernel
theorem dX7_edge_20 : decode cX7_edge 20 = .ok (.iload_n 2, 1) := by decide +kernel
theorem dX7_edge_21 : decode cX7_edge 21 = .ok (.iload 5, 2) := by decide +kernel
theorem dX7_edge_23 : decode cX7_edge 23 = .ok (.invokevirtual 135, 3) := by decide +kernel
theorem dX7_edge_26 : decode cX7_edge 26 = .ok (.ifCond .eq 8, 3) := by decide +kernel
theorem dX7_edge_29 : decode cX7_edge 29 = .ok (.iload 5, 2) := by decide +kernel
theorem dX7_edge_31 : decode cX7_edge 31 = .ok (.goto 5, 3) := by decide +kernel
theorem dX7_edge_34 : decode cX7_edge 34 = .ok (.iload 4, 2) := by decide +kernel
theorem dX7_edge_36 : decode cX7_edge 36 = .ok (.istore 4, 2) := by decide +kernel
theorem dX7_edge_38 : decode cX7_edge 38 = .ok (.aload_n 0, 1) := by decide +kernel
theorem dX7_edge_39 : decode cX7_edge 39 = .ok (.iload_n 1, 1) := by decide +kernel
theorem dX7_edge_40 : decode cX7_edge 40 = .ok (.iload_n 2, 1) := by decide +kernel
theorem dX7_edge_41 : decode cX7_edge 41 = .ok (.iload 5, 2) := by decide +kernel
theorem dX7_edge_43 : decode cX7_edge 43 = .ok (.invokevirtual 103, 3) := by decide +kernel
theorem dX7_edge_46 : decode cX7_edge 46 = .ok (.istore 5, 2) := by decide +kernel
theorem dX7_edge_48 : decode cX7_edge 48 = .ok (.goto (-36), 3) := by decide +kernel
theorem dX7_edge_51 : decode cX7_edge 51 = .ok (.iload 4, 2) := by decide +kernel
theorem dX7_edge_53 : decode cX7_edge 53 = .ok (.ireturn, 1) := by decide +kernel
theorem dX7_inputsAgree_0 : decode cX7_inputsAgree 0 = .ok (.aload_n 0, 1) := by decide +kernel
theorem dX7_inputsAgree_1 : decode cX7_inputsAgree 1 = .ok (.getfield 51, 3) := by decide +kernel
theorem dX7_inputsAgree_4 : decode cX7_inputsAgree 4 = .ok (.iload_n 1, 1) := by decide +kernel
theorem dX7_inputsAgree_5 : decode cX7_inputsAgree 5 = .ok (.iaload, 1) := by decide +kernel
theorem dX7_inputsAgree_6 : decode cX7_inputsAgree 6 = .ok (.bipush 6, 2) := by decide +kernel
theorem dX7_inputsAgree_8 : decode cX7_inputsAgree 8 = .ok (.if_icmp .ge 47, 3) := by decide +kernel
theorem dX7_inputsAgree_11 : decode cX7_inputsAgree 11 = .ok (.aload_n 0, 1) := by decide +kernel
theorem dX7_inputsAgree_12 : decode cX7_inputsAgree 12 = .ok (.aload_n 0, 1) := by decide +kernel
theorem dX7_inputsAgree_13 : decode cX7_inputsAgree 13 = .ok (.getfield 54, 3) := by decide +kernel
theorem dX7_inputsAgree_16 : decode cX7_inputsAgree 16 = .ok (.iload_n 1, 1) := by decide +kernel
theorem dX7_inputsAgree_17 : decode cX7_inputsAgree 17 = .ok (.iaload, 1) := by decide +kernel
theorem dX7_inputsAgree_18 : decode cX7_inputsAgree 18 = .ok (.iload_n 2, 1) := by decide +kernel
theorem dX7_inputsAgree_19 : decode cX7_inputsAgree 19 = .ok (.invokevirtual 150, 3) := by decide +kernel
theorem dX7_inputsAgree_22 : decode cX7_inputsAgree 22 = .ok (.ifCond .eq 31, 3) := by decide +kernel
theorem dX7_inputsAgree_25 : decode cX7_inputsAgree 25 = .ok (.aload_n 0, 1) := by decide +kernel
theorem dX7_inputsAgree_26 : decode cX7_inputsAgree 26 = .ok (.getfield 51, 3) := by decide +kernel
theorem dX7_inputsAgree_29 : decode cX7_inputsAgree 29 = .ok (.iload_n 1, 1) := by decide +kernel
theorem dX7_inputsAgree_30 : decode cX7_inputsAgree 30 = .ok (.iaload, 1) := by decide +kernel
theorem dX7_inputsAgree_31 : decode cX7_inputsAgree 31 = .ok (.iconst 1, 1) := by decide +kernel
theorem dX7_inputsAgree_32 : decode cX7_inputsAgree 32 = .ok (.if_icmp .eq 17, 3) := by decide +kernel
theorem dX7_inputsAgree_35 : decode cX7_inputsAgree 35 = .ok (.aload_n 0, 1) := by decide +kernel
theorem dX7_inputsAgree_36 : decode cX7_inputsAgree 36 = .ok (.aload_n 0, 1) := by decide +kernel
theorem dX7_inputsAgree_37 : decode cX7_inputsAgree 37 = .ok (.getfield 57, 3) := by decide +kernel
theorem dX7_inputsAgree_40 : decode cX7_inputsAgree 40 = .ok (.iload_n 1, 1) := by decide +kernel
theorem dX7_inputsAgree_41 : decode cX7_inputsAgree 41 = .ok (.iaload, 1) := by decide +kernel
theorem dX7_inputsAgree_42 : decode cX7_inputsAgree 42 = .ok (.iload_n 2, 1) := by decide +kernel
theorem dX7_inputsAgree_43 : decode cX7_inputsAgree 43 = .ok (.invokevirtual 150, 3) := by decide +kernel
theorem dX7_inputsAgree_46 : decode cX7_inputsAgree 46 = .ok (.ifCond .eq 7, 3) := by decide +kernel
theorem dX7_inputsAgree_49 : decode cX7_inputsAgree 49 = .ok (.iconst 1, 1) := by decide +kernel
theorem dX7_inputsAgree_50 : decode cX7_inputsAgree 50 = .ok (.goto 4, 3) := by decide +kernel
theorem dX7_inputsAgree_53 : decode cX7_inputsAgree 53 = .ok (.iconst 0, 1) := by decide +kernel
theorem dX7_inputsAgree_54 : decode cX7_inputsAgree 54 = .ok (.ireturn, 1) := by decide +kernel
theorem dX7_inputsAgree_55 : decode cX7_inputsAgree 55 = .ok (.aload_n 0, 1) := by decide +kernel
theorem dX7_inputsAgree_56 : decode cX7_inputsAgree 56 = .ok (.iconst 0, 1) := by decide +kernel
theorem dX7_inputsAgree_57 : decode cX7_inputsAgree 57 = .ok (.aload_n 0, 1) := by decide +kernel
theorem dX7_inputsAgree_58 : decode cX7_inputsAgree 58 = .ok (.getfield 57, 3) := by decide +kernel
theorem dX7_inputsAgree_61 : decode cX7_inputsAgree 61 = .ok (.iload_n 1, 1) := by decide +kernel
theorem dX7_inputsAgree_62 : decode cX7_inputsAgree 62 = .ok (.iaload, 1) := by decide +kernel
theorem dX7_inputsAgree_63 : decode cX7_inputsAgree 63 = .ok (.iload_n 2, 1) := by decide +kernel
theorem dX7_inputsAgree_64 : decode cX7_inputsAgree 64 = .ok (.invokevirtual 153, 3) := by decide +kernel
theorem dX7_inputsAgree_67 : decode cX7_inputsAgree 67 = .ok (.istore_n 3, 1) := by decide +kernel
theorem dX7_inputsAgree_68 : decode cX7_inputsAgree 68 = .ok (.aload_n 0, 1) := by decide +kernel
theorem dX7_inputsAgree_69 : decode cX7_inputsAgree 69 = .ok (.iconst 1, 1) := by decide +kernel
theorem dX7_inputsAgree_70 : decode cX7_inputsAgree 70 = .ok (.aload_n 0, 1) := by decide +kernel
theorem dX7_inputsAgree_71 : decode cX7_inputsAgree 71 = .ok (.getfield 23, 3) := by decide +kernel
theorem dX7_inputsAgree_74 : decode cX7_inputsAgree 74 = .ok (.aload_n 0, 1) := by decide +kernel
theorem dX7_inputsAgree_75 : decode cX7_inputsAgree 75 = .ok (.getfield 57, 3) := by decide +kernel
theorem dX7_inputsAgree_78 : decode cX7_inputsAgree 78 = .ok (.iload_n 1, 1) := by decide +kernel
theorem dX7_inputsAgree_79 : decode cX7_inputsAgree 79 = .ok (.iaload, 1) := by decide +kernel
theorem dX7_inputsAgree_80 : decode cX7_inputsAgree 80 = .ok (.iaload, 1) := by decide +kernel
theorem dX7_inputsAgree_81 : decode cX7_inputsAgree 81 = .ok (.iload_n 2, 1) := by decide +kernel
theorem dX7_inputsAgree_82 : decode cX7_inputsAgree 82 = .ok (.invokevirtual 153, 3) := by decide +kernel
theorem dX7_inputsAgree_85 : decode cX7_inputsAgree 85 = .ok (.istore 4, 2) := by decide +kernel
theorem dX7_inputsAgree_87 : decode cX7_inputsAgree 87 = .ok (.iload_n 3, 1) := by decide +kernel
theorem dX7_inputsAgree_88 : decode cX7_inputsAgree 88 = .ok (.ifCond .lt 29, 3) := by decide +kernel
theorem dX7_inputsAgree_91 : decode cX7_inputsAgree 91 = .ok (.iload_n 3, 1) := by decide +kernel
theorem dX7_inputsAgree_92 : decode cX7_inputsAgree 92 = .ok (.iload 4, 2) := by decide +kernel
theorem dX7_inputsAgree_94 : decode cX7_inputsAgree 94 = .ok (.if_icmp .ne 23, 3) := by decide +kernel
theorem dX7_inputsAgree_97 : decode cX7_inputsAgree 97 = .ok (.aload_n 0, 1) := by decide +kernel
theorem dX7_inputsAgree_98 : decode cX7_inputsAgree 98 = .ok (.aload_n 0, 1) := by decide +kernel
theorem dX7_inputsAgree_99 : decode cX7_inputsAgree 99 = .ok (.getfield 54, 3) := by decide +kernel
theorem dX7_inputsAgree_102 : decode cX7_inputsAgree 102 = .ok (.iload_n 1, 1) := by decide +kernel
theorem dX7_inputsAgree_103 : decode cX7_inputsAgree 103 = .ok (.iaload, 1) := by decide +kernel
theorem dX7_inputsAgree_104 : decode cX7_inputsAgree 104 = .ok (.iload_n 3, 1) := by decide +kernel
theorem dX7_inputsAgree_105 : decode cX7_inputsAgree 105 = .ok (.iconst 1, 1) := by decide +kernel
theorem dX7_inputsAgree_106 : decode cX7_inputsAgree 106 = .ok (.isub, 1) := by decide +kernel
theorem dX7_inputsAgree_107 : decode cX7_inputsAgree 107 = .ok (.invokevirtual 150, 3) := by decide +kernel
theorem dX7_inputsAgree_110 : decode cX7_inputsAgree 110 = .ok (.ifCond .eq 7, 3) := by decide +kernel
theorem dX7_inputsAgree_113 : decode cX7_inputsAgree 113 = .ok (.iconst 1, 1) := by decide +kernel
theorem dX7_inputsAgree_114 : decode cX7_inputsAgree 114 = .ok (.goto 4, 3) := by decide +kernel
theorem dX7_inputsAgree_117 : decode cX7_inputsAgree 117 = .ok (.iconst 0, 1) := by decide +kernel
theorem dX7_inputsAgree_118 : decode cX7_inputsAgree 118 = .ok (.ireturn, 1) := by decide +kernel
theorem dX7_guilty_0 : decode cX7_guilty 0 = .ok (.iload_n 1, 1) := by decide +kernel
theorem dX7_guilty_1 : decode cX7_guilty 1 = .ok (.iconst 0, 1) := by decide +kernel
theorem dX7_guilty_2 : decode cX7_guilty 2 = .ok (.aload_n 0, 1) := by decide +kernel
theorem dX7_guilty_3 : decode cX7_guilty 3 = .ok (.getfield 7, 3) := by decide +kernel
theorem dX7_guilty_6 : decode cX7_guilty 6 = .ok (.iconst 1, 1) := by decide +kernel
theorem dX7_guilty_7 : decode cX7_guilty 7 = .ok (.isub, 1) := by decide +kernel
theorem dX7_guilty_8 : decode cX7_guilty 8 = .ok (.invokestatic 60, 3) := by decide +kernel
theorem dX7_guilty_11 : decode cX7_guilty 11 = .ok (.ifCond .ne 5, 3) := by decide +kernel
theorem dX7_guilty_14 : decode cX7_guilty 14 = .ok (.iconst (-1), 1) := by decide +kernel
theorem dX7_guilty_15 : decode cX7_guilty 15 = .ok (.ireturn, 1) := by decide +kernel
theorem dX7_guilty_16 : decode cX7_guilty 16 = .ok (.iconst 0, 1) := by decide +kernel
theorem dX7_guilty_17 : decode cX7_guilty 17 = .ok (.istore_n 2, 1) := by decide +kernel
theorem dX7_guilty_18 : decode cX7_guilty 18 = .ok (.iload_n 2, 1) := by decide +kernel
theorem dX7_guilty_19 : decode cX7_guilty 19 = .ok (.bipush 12, 2) := by decide +kernel
theorem dX7_guilty_21 : decode cX7_guilty 21 = .ok (.if_icmp .ge 38, 3) := by decide +kernel
theorem dX7_guilty_24 : decode cX7_guilty 24 = .ok (.aload_n 0, 1) := by decide +kernel
theorem dX7_guilty_25 : decode cX7_guilty 25 = .ok (.getfield 51, 3) := by decide +kernel
theorem dX7_guilty_28 : decode cX7_guilty 28 = .ok (.iload_n 2, 1) := by decide +kernel
theorem dX7_guilty_29 : decode cX7_guilty 29 = .ok (.iaload, 1) := by decide +kernel
theorem dX7_guilty_30 : decode cX7_guilty 30 = .ok (.ifCond .le 23, 3) := by decide +kernel
theorem dX7_guilty_33 : decode cX7_guilty 33 = .ok (.aload_n 0, 1) := by decide +kernel
theorem dX7_guilty_34 : decode cX7_guilty 34 = .ok (.iload_n 2, 1) := by decide +kernel
theorem dX7_guilty_35 : decode cX7_guilty 35 = .ok (.iload_n 1, 1) := by decide +kernel
theorem dX7_guilty_36 : decode cX7_guilty 36 = .ok (.invokevirtual 150, 3) := by decide +kernel
theorem dX7_guilty_39 : decode cX7_guilty 39 = .ok (.ifCond .ne 14, 3) := by decide +kernel
theorem dX7_guilty_42 : decode cX7_guilty 42 = .ok (.aload_n 0, 1) := by decide +kernel
theorem dX7_guilty_43 : decode cX7_guilty 43 = .ok (.iload_n 2, 1) := by decide +kernel
theorem dX7_guilty_44 : decode cX7_guilty 44 = .ok (.iload_n 1, 1) := by decide +kernel
theorem dX7_guilty_45 : decode cX7_guilty 45 = .ok (.invokevirtual 156, 3) := by decide +kernel
theorem dX7_guilty_48 : decode cX7_guilty 48 = .ok (.ifCond .eq 5, 3) := by decide +kernel
theorem dX7_guilty_51 : decode cX7_guilty 51 = .ok (.iload_n 2, 1) := by decide +kernel
theorem dX7_guilty_52 : decode cX7_guilty 52 = .ok (.ireturn, 1) := by decide +kernel
theorem dX7_guilty_53 : decode cX7_guilty 53 = .ok (.iinc 2 1, 3) := by decide +kernel
theorem dX7_guilty_56 : decode cX7_guilty 56 = .ok (.goto (-38), 3) := by decide +kernel
theorem dX7_guilty_59 : decode cX7_guilty 59 = .ok (.bipush (-4), 2) := by decide +kernel
theorem dX7_guilty_61 : decode cX7_guilty 61 = .ok (.ireturn, 1) := by decide +kernel
theorem dX7_behave_0 : decode cX7_behave 0 = .ok (.iconst 1, 1) := by decide +kernel
theorem dX7_behave_1 : decode cX7_behave 1 = .ok (.istore_n 3, 1) := by decide +kernel
theorem dX7_behave_2 : decode cX7_behave 2 = .ok (.iconst 0, 1) := by decide +kernel
theorem dX7_behave_3 : decode cX7_behave 3 = .ok (.istore 4, 2) := by decide +kernel
theorem dX7_behave_5 : decode cX7_behave 5 = .ok (.iload 4, 2) := by decide +kernel
theorem dX7_behave_7 : decode cX7_behave 7 = .ok (.aload_n 0, 1) := by decide +kernel
theorem dX7_behave_8 : decode cX7_behave 8 = .ok (.getfield 7, 3) := by decide +kernel
theorem dX7_behave_11 : decode cX7_behave 11 = .ok (.if_icmp .ge 52, 3) := by decide +kernel
theorem dX7_behave_14 : decode cX7_behave 14 = .ok (.iload_n 3, 1) := by decide +kernel
theorem dX7_behave_15 : decode cX7_behave 15 = .ok (.ifCond .eq 48, 3) := by decide +kernel
theorem dX7_behave_18 : decode cX7_behave 18 = .ok (.aload_n 0, 1) := by decide +kernel
theorem dX7_behave_19 : decode cX7_behave 19 = .ok (.aload_n 0, 1) := by decide +kernel
theorem dX7_behave_20 : decode cX7_behave 20 = .ok (.iconst 0, 1) := by decide +kernel
theorem dX7_behave_21 : decode cX7_behave 21 = .ok (.iload_n 1, 1) := by decide +kernel
theorem dX7_behave_22 : decode cX7_behave 22 = .ok (.iload 4, 2) := by decide +kernel
theorem dX7_behave_24 : decode cX7_behave 24 = .ok (.invokevirtual 83, 3) := by decide +kernel
theorem dX7_behave_27 : decode cX7_behave 27 = .ok (.aload_n 0, 1) := by decide +kernel
theorem dX7_behave_28 : decode cX7_behave 28 = .ok (.iconst 1, 1) := by decide +kernel
theorem dX7_behave_29 : decode cX7_behave 29 = .ok (.iload_n 2, 1) := by decide +kernel
theorem dX7_behave_30 : decode cX7_behave 30 = .ok (.iload 4, 2) := by decide +kernel
theorem dX7_behave_32 : decode cX7_behave 32 = .ok (.invokevirtual 83, 3) := by decide +kernel
theorem dX7_behave_35 : decode cX7_behave 35 = .ok (.invokevirtual 97, 3) := by decide +kernel
theorem dX7_behave_38 : decode cX7_behave 38 = .ok (.istore_n 3, 1) := by decide +kernel
theorem dX7_behave_39 : decode cX7_behave 39 = .ok (.aload_n 0, 1) := by decide +kernel
theorem dX7_behave_40 : decode cX7_behave 40 = .ok (.iconst 0, 1) := by decide +kernel
theorem dX7_behave_41 : decode cX7_behave 41 = .ok (.iload_n 1, 1) := by decide +kernel
theorem dX7_behave_42 : decode cX7_behave 42 = .ok (.iload 4, 2) := by decide +kernel
theorem dX7_behave_44 : decode cX7_behave 44 = .ok (.invokevirtual 103, 3) := by decide +kernel
theorem dX7_behave_47 : decode cX7_behave 47 = .ok (.aload_n 0, 1) := by decide +kernel
theorem dX7_behave_48 : decode cX7_behave 48 = .ok (.iconst 1, 1) := by decide +kernel
theorem dX7_behave_49 : decode cX7_behave 49 = .ok (.iload_n 2, 1) := by decide +kernel
theorem dX7_behave_50 : decode cX7_behave 50 = .ok (.iload 4, 2) := by decide +kernel
theorem dX7_behave_52 : decode cX7_behave 52 = .ok (.invokevirtual 103, 3) := by decide +kernel
theorem dX7_behave_55 : decode cX7_behave 55 = .ok (.invokestatic 106, 3) := by decide +kernel
theorem dX7_behave_58 : decode cX7_behave 58 = .ok (.istore 4, 2) := by decide +kernel
theorem dX7_behave_60 : decode cX7_behave 60 = .ok (.goto (-55), 3) := by decide +kernel
theorem dX7_behave_63 : decode cX7_behave 63 = .ok (.iload_n 3, 1) := by decide +kernel
theorem dX7_behave_64 : decode cX7_behave 64 = .ok (.ireturn, 1) := by decide +kernel
theorem dX7_alike_0 : decode cX7_alike 0 = .ok (.iload_n 1, 1) := by decide +kernel
theorem dX7_alike_1 : decode cX7_alike 1 = .ok (.invokestatic 64, 3) := by decide +kernel
theorem dX7_alike_4 : decode cX7_alike 4 = .ok (.ifCond .ne 5, 3) := by decide +kernel
theorem dX7_alike_7 : decode cX7_alike 7 = .ok (.iconst (-1), 1) := by decide +kernel
theorem dX7_alike_8 : decode cX7_alike 8 = .ok (.ireturn, 1) := by decide +kernel
theorem dX7_alike_9 : decode cX7_alike 9 = .ok (.iconst 0, 1) := by decide +kernel
theorem dX7_alike_10 : decode cX7_alike 10 = .ok (.istore_n 2, 1) := by decide +kernel
theorem dX7_alike_11 : decode cX7_alike 11 = .ok (.iconst 0, 1) := by decide +kernel
theorem dX7_alike_12 : decode cX7_alike 12 = .ok (.istore_n 3, 1) := by decide +kernel
theorem dX7_alike_13 : decode cX7_alike 13 = .ok (.iload_n 3, 1) := by decide +kernel
theorem dX7_alike_14 : decode cX7_alike 14 = .ok (.bipush 12, 2) := by decide +kernel
theorem dX7_alike_16 : decode cX7_alike 16 = .ok (.if_icmp .ge 28, 3) := by decide +kernel
theorem dX7_alike_19 : decode cX7_alike 19 = .ok (.iload_n 2, 1) := by decide +kernel
theorem dX7_alike_20 : decode cX7_alike 20 = .ok (.aload_n 0, 1) := by decide +kernel
theorem dX7_alike_21 : decode cX7_alike 21 = .ok (.iload_n 1, 1) := by decide +kernel
theorem dX7_alike_22 : decode cX7_alike 22 = .ok (.iload_n 3, 1) := by decide +kernel
theorem dX7_alike_23 : decode cX7_alike 23 = .ok (.invokevirtual 159, 3) := by decide +kernel
theorem dX7_alike_26 : decode cX7_alike 26 = .ok (.ifCond .eq 9, 3) := by decide +kernel
theorem dX7_alike_29 : decode cX7_alike 29 = .ok (.iconst 1, 1) := by decide +kernel
theorem dX7_alike_30 : decode cX7_alike 30 = .ok (.iload_n 3, 1) := by decide +kernel
theorem dX7_alike_31 : decode cX7_alike 31 = .ok (.ishl, 1) := by decide +kernel
theorem dX7_alike_32 : decode cX7_alike 32 = .ok (.goto 4, 3) := by decide +kernel
theorem dX7_alike_35 : decode cX7_alike 35 = .ok (.iconst 0, 1) := by decide +kernel
theorem dX7_alike_36 : decode cX7_alike 36 = .ok (.ior, 1) := by decide +kernel
theorem dX7_alike_37 : decode cX7_alike 37 = .ok (.istore_n 2, 1) := by decide +kernel
theorem dX7_alike_38 : decode cX7_alike 38 = .ok (.iinc 3 1, 3) := by decide +kernel
theorem dX7_alike_41 : decode cX7_alike 41 = .ok (.goto (-28), 3) := by decide +kernel
theorem dX7_alike_44 : decode cX7_alike 44 = .ok (.iload_n 2, 1) := by decide +kernel
theorem dX7_alike_45 : decode cX7_alike 45 = .ok (.ireturn, 1) := by decide +kernel
theorem dX7_holds_0 : decode cX7_holds 0 = .ok (.iload_n 1, 1) := by decide +kernel
theorem dX7_holds_1 : decode cX7_holds 1 = .ok (.iload_n 2, 1) := by decide +kernel
theorem dX7_holds_2 : decode cX7_holds 2 = .ok (.invokestatic 68, 3) := by decide +kernel
theorem dX7_holds_5 : decode cX7_holds 5 = .ok (.ifCond .eq 62, 3) := by decide +kernel
theorem dX7_holds_8 : decode cX7_holds 8 = .ok (.iload_n 3, 1) := by decide +kernel
theorem dX7_holds_9 : decode cX7_holds 9 = .ok (.iconst 0, 1) := by decide +kernel
theorem dX7_holds_10 : decode cX7_holds 10 = .ok (.sipush 256, 3) := by decide +kernel
theorem dX7_holds_13 : decode cX7_holds 13 = .ok (.invokestatic 60, 3) := by decide +kernel
theorem dX7_holds_16 : decode cX7_holds 16 = .ok (.ifCond .eq 51, 3) := by decide +kernel
theorem dX7_holds_19 : decode cX7_holds 19 = .ok (.iload 4, 2) := by decide +kernel
theorem dX7_holds_21 : decode cX7_holds 21 = .ok (.invokestatic 64, 3) := by decide +kernel
theorem dX7_holds_24 : decode cX7_holds 24 = .ok (.ifCond .eq 43, 3) := by decide +kernel
theorem dX7_holds_27 : decode cX7_holds 27 = .ok (.iload 5, 2) := by decide +kernel
theorem dX7_holds_29 : decode cX7_holds 29 = .ok (.iconst 0, 1) := by decide +kernel
theorem dX7_holds_30 : decode cX7_holds 30 = .ok (.sipush 256, 3) := by decide +kernel
theorem dX7_holds_33 : decode cX7_holds 33 = .ok (.invokestatic 60, 3) := by decide +kernel
theorem dX7_holds_36 : decode cX7_holds 36 = .ok (.ifCond .eq 31, 3) := by decide +kernel
theorem dX7_holds_39 : decode cX7_holds 39 = .ok (.iload 6, 2) := by decide +kernel
theorem dX7_holds_41 : decode cX7_holds 41 = .ok (.iconst 1, 1) := by decide +kernel
theorem dX7_holds_42 : decode cX7_holds 42 = .ok (.sipush 4000, 3) := by decide +kernel
theorem dX7_holds_45 : decode cX7_holds 45 = .ok (.invokestatic 60, 3) := by decide +kernel
theorem dX7_holds_48 : decode cX7_holds 48 = .ok (.ifCond .eq 19, 3) := by decide +kernel
theorem dX7_holds_51 : decode cX7_holds 51 = .ok (.iload 7, 2) := by decide +kernel
theorem dX7_holds_53 : decode cX7_holds 53 = .ok (.iconst (-1), 1) := by decide +kernel
theorem dX7_holds_54 : decode cX7_holds 54 = .ok (.if_icmp .lt 13, 3) := by decide +kernel
theorem dX7_holds_57 : decode cX7_holds 57 = .ok (.iload 8, 2) := by decide +kernel
theorem dX7_holds_59 : decode cX7_holds 59 = .ok (.iconst 0, 1) := by decide +kernel
theorem dX7_holds_60 : decode cX7_holds 60 = .ok (.iconst 1, 1) := by decide +kernel
theorem dX7_holds_61 : decode cX7_holds 61 = .ok (.invokestatic 60, 3) := by decide +kernel
theorem dX7_holds_64 : decode cX7_holds 64 = .ok (.ifCond .ne 5, 3) := by decide +kernel
theorem dX7_holds_67 : decode cX7_holds 67 = .ok (.iconst (-1), 1) := by decide +kernel
theorem dX7_holds_68 : decode cX7_holds 68 = .ok (.ireturn, 1) := by decide +kernel
theorem dX7_holds_69 : decode cX7_holds 69 = .ok (.iconst 0, 1) := by decide +kernel
theorem dX7_holds_70 : decode cX7_holds 70 = .ok (.istore 9, 2) := by decide +kernel
theorem dX7_holds_72 : decode cX7_holds 72 = .ok (.iconst (-1), 1) := by decide +kernel
theorem dX7_holds_73 : decode cX7_holds 73 = .ok (.istore 10, 2) := by decide +kernel
theorem dX7_holds_75 : decode cX7_holds 75 = .ok (.bipush (-4), 2) := by decide +kernel
theorem dX7_holds_77 : decode cX7_holds 77 = .ok (.istore 11, 2) := by decide +kernel
theorem dX7_holds_79 : decode cX7_holds 79 = .ok (.iconst 0, 1) := by decide +kernel
theorem dX7_holds_80 : decode cX7_holds 80 = .ok (.istore 12, 2) := by decide +kernel
theorem dX7_holds_82 : decode cX7_holds 82 = .ok (.iload 12, 2) := by decide +kernel
theorem dX7_holds_84 : decode cX7_holds 84 = .ok (.aload_n 0, 1) := by decide +kernel
theorem dX7_holds_85 : decode cX7_holds 85 = .ok (.getfield 7, 3) := by decide +kernel
theorem dX7_holds_88 : decode cX7_holds 88 = .ok (.if_icmp .gt 171, 3) := by decide +kernel
theorem dX7_holds_91 : decode cX7_holds 91 = .ok (.iload 12, 2) := by decide +kernel
theorem dX7_holds_93 : decode cX7_holds 93 = .ok (.aload_n 0, 1) := by decide +kernel
theorem dX7_holds_94 : decode cX7_holds 94 = .ok (.getfield 7, 3) := by decide +kernel
theorem dX7_holds_97 : decode cX7_holds 97 = .ok (.if_icmp .ge 39, 3) := by decide +kernel
theorem dX7_holds_100 : decode cX7_holds 100 = .ok (.aload_n 0, 1) := by decide +kernel
theorem dX7_holds_101 : decode cX7_holds 101 = .ok (.iload_n 1, 1) := by decide +kernel
theorem dX7_holds_102 : decode cX7_holds 102 = .ok (.iload_n 2, 1) := by decide +kernel
theorem dX7_holds_103 : decode cX7_holds 103 = .ok (.iload 12, 2) := by decide +kernel
theorem dX7_holds_105 : decode cX7_holds 105 = .ok (.invokevirtual 83, 3) := by decide +kernel
theorem dX7_holds_108 : decode cX7_holds 108 = .ok (.iload_n 3, 1) := by decide +kernel
theorem dX7_holds_109 : decode cX7_holds 109 = .ok (.if_icmp .ne 27, 3) := by decide +kernel
theorem dX7_holds_112 : decode cX7_holds 112 = .ok (.iload_n 2, 1) := by decide +kernel
theorem dX7_holds_113 : decode cX7_holds 113 = .ok (.iload 4, 2) := by decide +kernel
theorem dX7_holds_115 : decode cX7_holds 115 = .ok (.if_icmp .eq 17, 3) := by decide +kernel
theorem dX7_holds_118 : decode cX7_holds 118 = .ok (.aload_n 0, 1) := by decide +kernel
theorem dX7_holds_119 : decode cX7_holds 119 = .ok (.iload_n 1, 1) := by decide +kernel
theorem dX7_holds_120 : decode cX7_holds 120 = .ok (.iload 4, 2) := by decide +kernel
theorem dX7_holds_122 : decode cX7_holds 122 = .ok (.iload 12, 2) := by decide +kernel
theorem dX7_holds_124 : decode cX7_holds 124 = .ok (.invokevirtual 83, 3) := by decide +kernel
theorem dX7_holds_127 : decode cX7_holds 127 = .ok (.iload 5, 2) := by decide +kernel
theorem dX7_holds_129 : decode cX7_holds 129 = .ok (.if_icmp .eq 7, 3) := by decide +kernel
theorem dX7_holds_132 : decode cX7_holds 132 = .ok (.iconst 1, 1) := by decide +kernel
theorem dX7_holds_133 : decode cX7_holds 133 = .ok (.goto 4, 3) := by decide +kernel
theorem dX7_holds_136 : decode cX7_holds 136 = .ok (.iconst 0, 1) := by decide +kernel
theorem dX7_holds_137 : decode cX7_holds 137 = .ok (.istore 13, 2) := by decide +kernel
theorem dX7_holds_139 : decode cX7_holds 139 = .ok (.iload 13, 2) := by decide +kernel
theorem dX7_holds_141 : decode cX7_holds 141 = .ok (.ifCond .eq 12, 3) := by decide +kernel
theorem dX7_holds_144 : decode cX7_holds 144 = .ok (.iload 10, 2) := by decide +kernel
theorem dX7_holds_146 : decode cX7_holds 146 = .ok (.ifCond .ge 7, 3) := by decide +kernel
theorem dX7_holds_149 : decode cX7_holds 149 = .ok (.iload 12, 2) := by decide +kernel
theorem dX7_holds_151 : decode cX7_holds 151 = .ok (.istore 10, 2) := by decide +kernel
theorem dX7_holds_153 : decode cX7_holds 153 = .ok (.iload 13, 2) := by decide +kernel
theorem dX7_holds_155 : decode cX7_holds 155 = .ok (.ifCond .ne 50, 3) := by decide +kernel
theorem dX7_holds_158 : decode cX7_holds 158 = .ok (.iload 10, 2) := by decide +kernel
theorem dX7_holds_160 : decode cX7_holds 160 = .ok (.ifCond .lt 45, 3) := by decide +kernel
theorem dX7_holds_163 : decode cX7_holds 163 = .ok (.iload 12, 2) := by decide +kernel
theorem dX7_holds_165 : decode cX7_holds 165 = .ok (.iload 10, 2) := by decide +kernel
theorem dX7_holds_167 : decode cX7_holds 167 = .ok (.isub, 1) := by decide +kernel
theorem dX7_holds_168 : decode cX7_holds 168 = .ok (.iload 6, 2) := by decide +kernel
theorem dX7_holds_170 : decode cX7_holds 170 = .ok (.if_icmp .lt 32, 3) := by decide +kernel
theorem dX7_holds_173 : decode cX7_holds 173 = .ok (.iload 9, 2) := by decide +kernel
theorem dX7_holds_175 : decode cX7_holds 175 = .ok (.iload 7, 2) := by decide +kernel
theorem dX7_holds_177 : decode cX7_holds 177 = .ok (.if_icmp .ne 18, 3) := by decide +kernel
theorem dX7_holds_180 : decode cX7_holds 180 = .ok (.iload 8, 2) := by decide +kernel
theorem dX7_holds_182 : decode cX7_holds 182 = .ok (.ifCond .ne 8, 3) := by decide +kernel
theorem dX7_holds_185 : decode cX7_holds 185 = .ok (.iload 10, 2) := by decide +kernel
theorem dX7_holds_187 : decode cX7_holds 187 = .ok (.goto 10, 3) := by decide +kernel
theorem dX7_holds_190 : decode cX7_holds 190 = .ok (.iload 12, 2) := by decide +kernel
theorem dX7_holds_192 : decode cX7_holds 192 = .ok (.goto 5, 3) := by decide +kernel
theorem dX7_holds_195 : decode cX7_holds 195 = .ok (.iload 11, 2) := by decide +kernel
theorem dX7_holds_197 : decode cX7_holds 197 = .ok (.istore 11, 2) := by decide +kernel
theorem dX7_holds_199 : decode cX7_holds 199 = .ok (.iinc 9 1, 3) := by decide +kernel
theorem dX7_holds_202 : decode cX7_holds 202 = .ok (.iconst (-1), 1) := by decide +kernel
theorem dX7_holds_203 : decode cX7_holds 203 = .ok (.istore 10, 2) := by decide +kernel
theorem dX7_holds_205 : decode cX7_holds 205 = .ok (.aload_n 0, 1) := by decide +kernel
theorem dX7_holds_206 : decode cX7_holds 206 = .ok (.iload_n 1, 1) := by decide +kernel
theorem dX7_holds_207 : decode cX7_holds 207 = .ok (.iload_n 2, 1) := by decide +kernel
theorem dX7_holds_208 : decode cX7_holds 208 = .ok (.iload 12, 2) := by decide +kernel
theorem dX7_holds_210 : decode cX7_holds 210 = .ok (.invokevirtual 103, 3) := by decide +kernel
theorem dX7_holds_213 : decode cX7_holds 213 = .ok (.aload_n 0, 1) := by decide +kernel
theorem dX7_holds_214 : decode cX7_holds 214 = .ok (.iload_n 1, 1) := by decide +kernel
theorem dX7_holds_215 : decode cX7_holds 215 = .ok (.iload 4, 2) := by decide +kernel
theorem dX7_holds_217 : decode cX7_holds 217 = .ok (.iload 12, 2) := by decide +kernel
theorem dX7_holds_219 : decode cX7_holds 219 = .ok (.invokevirtual 103, 3) := by decide +kernel
theorem dX7_holds_222 : decode cX7_holds 222 = .ok (.invokestatic 106, 3) := by decide +kernel
theorem dX7_holds_225 : decode cX7_holds 225 = .ok (.istore 14, 2) := by decide +kernel
theorem dX7_holds_227 : decode cX7_holds 227 = .ok (.iload 12, 2) := by decide +kernel
theorem dX7_holds_229 : decode cX7_holds 229 = .ok (.aload_n 0, 1) := by decide +kernel
theorem dX7_holds_230 : decode cX7_holds 230 = .ok (.getfield 7, 3) := by decide +kernel
theorem dX7_holds_233 : decode cX7_holds 233 = .ok (.if_icmp .ge 19, 3) := by decide +kernel
theorem dX7_holds_236 : decode cX7_holds 236 = .ok (.iload 14, 2) := by decide +kernel
theorem dX7_holds_238 : decode cX7_holds 238 = .ok (.aload_n 0, 1) := by decide +kernel
theorem dX7_holds_239 : decode cX7_holds 239 = .ok (.getfield 7, 3) := by decide +kernel
theorem dX7_holds_242 : decode cX7_holds 242 = .ok (.if_icmp .le 10, 3) := by decide +kernel
theorem dX7_holds_245 : decode cX7_holds 245 = .ok (.aload_n 0, 1) := by decide +kernel
theorem dX7_holds_246 : decode cX7_holds 246 = .ok (.getfield 7, 3) := by decide +kernel
theorem dX7_holds_249 : decode cX7_holds 249 = .ok (.goto 5, 3) := by decide +kernel
theorem dX7_holds_252 : decode cX7_holds 252 = .ok (.iload 14, 2) := by decide +kernel
theorem dX7_holds_254 : decode cX7_holds 254 = .ok (.istore 12, 2) := by decide +kernel
theorem dX7_holds_256 : decode cX7_holds 256 = .ok (.goto (-174), 3) := by decide +kernel
theorem dX7_holds_259 : decode cX7_holds 259 = .ok (.iload 7, 2) := by decide +kernel
theorem dX7_holds_261 : decode cX7_holds 261 = .ok (.ifCond .ge 8, 3) := by decide +kernel
theorem dX7_holds_264 : decode cX7_holds 264 = .ok (.iload 9, 2) := by decide +kernel
theorem dX7_holds_266 : decode cX7_holds 266 = .ok (.goto 5, 3) := by decide +kernel
theorem dX7_holds_269 : decode cX7_holds 269 = .ok (.iload 11, 2) := by decide +kernel
theorem dX7_holds_271 : decode cX7_holds 271 = .ok (.ireturn, 1) := by decide +kernel
theorem dX7_window_0 : decode cX7_window 0 = .ok (.iload_n 1, 1) := by decide +kernel
theorem dX7_window_1 : decode cX7_window 1 = .ok (.iload_n 2, 1) := by decide +kernel
theorem dX7_window_2 : decode cX7_window 2 = .ok (.invokestatic 68, 3) := by decide +kernel
theorem dX7_window_5 : decode cX7_window 5 = .ok (.ifCond .eq 32, 3) := by decide +kernel
theorem dX7_window_8 : decode cX7_window 8 = .ok (.iload_n 3, 1) := by decide +kernel
theorem dX7_window_9 : decode cX7_window 9 = .ok (.ifCond .lt 28, 3) := by decide +kernel
theorem dX7_window_12 : decode cX7_window 12 = .ok (.iload_n 3, 1) := by decide +kernel
theorem dX7_window_13 : decode cX7_window 13 = .ok (.iload 4, 2) := by decide +kernel
theorem dX7_window_15 : decode cX7_window 15 = .ok (.if_icmp .ge 22, 3) := by decide +kernel
theorem dX7_window_18 : decode cX7_window 18 = .ok (.iload 4, 2) := by decide +kernel
theorem dX7_window_20 : decode cX7_window 20 = .ok (.aload_n 0, 1) := by decide +kernel
theorem dX7_window_21 : decode cX7_window 21 = .ok (.getfield 7, 3) := by decide +kernel
theorem dX7_window_24 : decode cX7_window 24 = .ok (.if_icmp .gt 13, 3) := by decide +kernel
theorem dX7_window_27 : decode cX7_window 27 = .ok (.iload 5, 2) := by decide +kernel
theorem dX7_window_29 : decode cX7_window 29 = .ok (.iconst 0, 1) := by decide +kernel
theorem dX7_window_30 : decode cX7_window 30 = .ok (.iconst 2, 1) := by decide +kernel
theorem dX7_window_31 : decode cX7_window 31 = .ok (.invokestatic 60, 3) := by decide +kernel
theorem dX7_window_34 : decode cX7_window 34 = .ok (.ifCond .ne 5, 3) := by decide +kernel
theorem dX7_window_37 : decode cX7_window 37 = .ok (.iconst (-1), 1) := by decide +kernel
theorem dX7_window_38 : decode cX7_window 38 = .ok (.ireturn, 1) := by decide +kernel
theorem dX7_window_39 : decode cX7_window 39 = .ok (.iconst 0, 1) := by decide +kernel
theorem dX7_window_40 : decode cX7_window 40 = .ok (.istore 6, 2) := by decide +kernel
theorem dX7_window_42 : decode cX7_window 42 = .ok (.iload_n 3, 1) := by decide +kernel
theorem dX7_window_43 : decode cX7_window 43 = .ok (.istore 7, 2) := by decide +kernel
theorem dX7_window_45 : decode cX7_window 45 = .ok (.iload 7, 2) := by decide +kernel
theorem dX7_window_47 : decode cX7_window 47 = .ok (.iload 4, 2) := by decide +kernel
theorem dX7_window_49 : decode cX7_window 49 = .ok (.if_icmp .ge 139, 3) := by decide +kernel
theorem dX7_window_52 : decode cX7_window 52 = .ok (.aload_n 0, 1) := by decide +kernel
theorem dX7_window_53 : decode cX7_window 53 = .ok (.iload_n 1, 1) := by decide +kernel
theorem dX7_window_54 : decode cX7_window 54 = .ok (.iload_n 2, 1) := by decide +kernel
theorem dX7_window_55 : decode cX7_window 55 = .ok (.iload 7, 2) := by decide +kernel
theorem dX7_window_57 : decode cX7_window 57 = .ok (.invokevirtual 103, 3) := by decide +kernel
theorem dX7_window_60 : decode cX7_window 60 = .ok (.iload 4, 2) := by decide +kernel
theorem dX7_window_62 : decode cX7_window 62 = .ok (.invokestatic 106, 3) := by decide +kernel
theorem dX7_window_65 : decode cX7_window 65 = .ok (.istore 8, 2) := by decide +kernel
theorem dX7_window_67 : decode cX7_window 67 = .ok (.aload_n 0, 1) := by decide +kernel
theorem dX7_window_68 : decode cX7_window 68 = .ok (.iload_n 1, 1) := by decide +kernel
theorem dX7_window_69 : decode cX7_window 69 = .ok (.iload_n 2, 1) := by decide +kernel
theorem dX7_window_70 : decode cX7_window 70 = .ok (.iload 7, 2) := by decide +kernel
theorem dX7_window_72 : decode cX7_window 72 = .ok (.invokevirtual 83, 3) := by decide +kernel
theorem dX7_window_75 : decode cX7_window 75 = .ok (.istore 9, 2) := by decide +kernel
theorem dX7_window_77 : decode cX7_window 77 = .ok (.iload 5, 2) := by decide +kernel
theorem dX7_window_79 : decode cX7_window 79 = .ok (.ifCond .ne 46, 3) := by decide +kernel
theorem dX7_window_82 : decode cX7_window 82 = .ok (.iload 7, 2) := by decide +kernel
theorem dX7_window_84 : decode cX7_window 84 = .ok (.ifCond .ne 9, 3) := by decide +kernel
theorem dX7_window_87 : decode cX7_window 87 = .ok (.sipush 256, 3) := by decide +kernel
theorem dX7_window_90 : decode cX7_window 90 = .ok (.goto 13, 3) := by decide +kernel
theorem dX7_window_93 : decode cX7_window 93 = .ok (.aload_n 0, 1) := by decide +kernel
theorem dX7_window_94 : decode cX7_window 94 = .ok (.iload_n 1, 1) := by decide +kernel
theorem dX7_window_95 : decode cX7_window 95 = .ok (.iload_n 2, 1) := by decide +kernel
theorem dX7_window_96 : decode cX7_window 96 = .ok (.iload 7, 2) := by decide +kernel
theorem dX7_window_98 : decode cX7_window 98 = .ok (.iconst 1, 1) := by decide +kernel
theorem dX7_window_99 : decode cX7_window 99 = .ok (.isub, 1) := by decide +kernel
theorem dX7_window_100 : decode cX7_window 100 = .ok (.invokevirtual 83, 3) := by decide +kernel
theorem dX7_window_103 : decode cX7_window 103 = .ok (.istore 10, 2) := by decide +kernel
theorem dX7_window_105 : decode cX7_window 105 = .ok (.iload 6, 2) := by decide +kernel
theorem dX7_window_107 : decode cX7_window 107 = .ok (.iload 10, 2) := by decide +kernel
theorem dX7_window_109 : decode cX7_window 109 = .ok (.iload 9, 2) := by decide +kernel
theorem dX7_window_111 : decode cX7_window 111 = .ok (.if_icmp .eq 7, 3) := by decide +kernel
theorem dX7_window_114 : decode cX7_window 114 = .ok (.iconst 1, 1) := by decide +kernel
theorem dX7_window_115 : decode cX7_window 115 = .ok (.goto 4, 3) := by decide +kernel
theorem dX7_window_118 : decode cX7_window 118 = .ok (.iconst 0, 1) := by decide +kernel
theorem dX7_window_119 : decode cX7_window 119 = .ok (.iadd, 1) := by decide +kernel
theorem dX7_window_120 : decode cX7_window 120 = .ok (.istore 6, 2) := by decide +kernel
theorem dX7_window_122 : decode cX7_window 122 = .ok (.goto 59, 3) := by decide +kernel
theorem dX7_window_125 : decode cX7_window 125 = .ok (.iload 5, 2) := by decide +kernel
theorem dX7_window_127 : decode cX7_window 127 = .ok (.iconst 1, 1) := by decide +kernel
theorem dX7_window_128 : decode cX7_window 128 = .ok (.if_icmp .ne 28, 3) := by decide +kernel
theorem dX7_window_131 : decode cX7_window 131 = .ok (.iload 6, 2) := by decide +kernel
theorem dX7_window_133 : decode cX7_window 133 = .ok (.iload 9, 2) := by decide +kernel
theorem dX7_window_135 : decode cX7_window 135 = .ok (.sipush 256, 3) := by decide +kernel
theorem dX7_window_138 : decode cX7_window 138 = .ok (.if_icmp .ne 11, 3) := by decide +kernel
theorem dX7_window_141 : decode cX7_window 141 = .ok (.iload 8, 2) := by decide +kernel
theorem dX7_window_143 : decode cX7_window 143 = .ok (.iload 7, 2) := by decide +kernel
theorem dX7_window_145 : decode cX7_window 145 = .ok (.isub, 1) := by decide +kernel
theorem dX7_window_146 : decode cX7_window 146 = .ok (.goto 4, 3) := by decide +kernel
theorem dX7_window_149 : decode cX7_window 149 = .ok (.iconst 0, 1) := by decide +kernel
theorem dX7_window_150 : decode cX7_window 150 = .ok (.iadd, 1) := by decide +kernel
theorem dX7_window_151 : decode cX7_window 151 = .ok (.istore 6, 2) := by decide +kernel
theorem dX7_window_153 : decode cX7_window 153 = .ok (.goto 28, 3) := by decide +kernel
theorem dX7_window_156 : decode cX7_window 156 = .ok (.iload 6, 2) := by decide +kernel
theorem dX7_window_158 : decode cX7_window 158 = .ok (.iload 9, 2) := by decide +kernel
theorem dX7_window_160 : decode cX7_window 160 = .ok (.sipush 256, 3) := by decide +kernel
theorem dX7_window_163 : decode cX7_window 163 = .ok (.if_icmp .ne 7, 3) := by decide +kernel
theorem dX7_window_166 : decode cX7_window 166 = .ok (.iconst 0, 1) := by decide +kernel
theorem dX7_window_167 : decode cX7_window 167 = .ok (.goto 11, 3) := by decide +kernel
theorem dX7_window_170 : decode cX7_window 170 = .ok (.iload 9, 2) := by decide +kernel
theorem dX7_window_172 : decode cX7_window 172 = .ok (.iload 8, 2) := by decide +kernel
theorem dX7_window_174 : decode cX7_window 174 = .ok (.iload 7, 2) := by decide +kernel
theorem dX7_window_176 : decode cX7_window 176 = .ok (.isub, 1) := by decide +kernel
theorem dX7_window_177 : decode cX7_window 177 = .ok (.imul, 1) := by decide +kernel
theorem dX7_window_178 : decode cX7_window 178 = .ok (.iadd, 1) := by decide +kernel
theorem dX7_window_179 : decode cX7_window 179 = .ok (.istore 6, 2) := by decide +kernel
theorem dX7_window_181 : decode cX7_window 181 = .ok (.iload 8, 2) := by decide +kernel
theorem dX7_window_183 : decode cX7_window 183 = .ok (.istore 7, 2) := by decide +kernel
theorem dX7_window_185 : decode cX7_window 185 = .ok (.goto (-140), 3) := by decide +kernel
theorem dX7_window_188 : decode cX7_window 188 = .ok (.iload 6, 2) := by decide +kernel
theorem dX7_window_190 : decode cX7_window 190 = .ok (.ireturn, 1) := by decide +kernel
theorem dX7_count_0 : decode cX7_count 0 = .ok (.iconst 0, 1) := by decide +kernel
theorem dX7_count_1 : decode cX7_count 1 = .ok (.istore_n 2, 1) := by decide +kernel
theorem dX7_count_2 : decode cX7_count 2 = .ok (.iconst 0, 1) := by decide +kernel
theorem dX7_count_3 : decode cX7_count 3 = .ok (.istore_n 3, 1) := by decide +kernel
theorem dX7_count_4 : decode cX7_count 4 = .ok (.iconst 0, 1) := by decide +kernel
theorem dX7_count_5 : decode cX7_count 5 = .ok (.istore 4, 2) := by decide +kernel
theorem dX7_count_7 : decode cX7_count 7 = .ok (.iconst 0, 1) := by decide +kernel
theorem dX7_count_8 : decode cX7_count 8 = .ok (.istore 5, 2) := by decide +kernel
theorem dX7_count_10 : decode cX7_count 10 = .ok (.iload 5, 2) := by decide +kernel
theorem dX7_count_12 : decode cX7_count 12 = .ok (.bipush 24, 2) := by decide +kernel
theorem dX7_count_14 : decode cX7_count 14 = .ok (.if_icmp .ge 19, 3) := by decide +kernel
theorem dX7_count_17 : decode cX7_count 17 = .ok (.iload_n 2, 1) := by decide +kernel
theorem dX7_count_18 : decode cX7_count 18 = .ok (.aload_n 0, 1) := by decide +kernel
theorem dX7_count_19 : decode cX7_count 19 = .ok (.getfield 13, 3) := by decide +kernel
theorem dX7_count_22 : decode cX7_count 22 = .ok (.iload 5, 2) := by decide +kernel
theorem dX7_count_24 : decode cX7_count 24 = .ok (.iaload, 1) := by decide +kernel
theorem dX7_count_25 : decode cX7_count 25 = .ok (.iadd, 1) := by decide +kernel
theorem dX7_count_26 : decode cX7_count 26 = .ok (.istore_n 2, 1) := by decide +kernel
theorem dX7_count_27 : decode cX7_count 27 = .ok (.iinc 5 1, 3) := by decide +kernel
theorem dX7_count_30 : decode cX7_count 30 = .ok (.goto (-20), 3) := by decide +kernel
theorem dX7_count_33 : decode cX7_count 33 = .ok (.iconst 0, 1) := by decide +kernel
theorem dX7_count_34 : decode cX7_count 34 = .ok (.istore 5, 2) := by decide +kernel
theorem dX7_count_36 : decode cX7_count 36 = .ok (.iload 5, 2) := by decide +kernel
theorem dX7_count_38 : decode cX7_count 38 = .ok (.iconst 4, 1) := by decide +kernel
theorem dX7_count_39 : decode cX7_count 39 = .ok (.if_icmp .ge 27, 3) := by decide +kernel
theorem dX7_count_42 : decode cX7_count 42 = .ok (.iload_n 3, 1) := by decide +kernel
theorem dX7_count_43 : decode cX7_count 43 = .ok (.aload_n 0, 1) := by decide +kernel
theorem dX7_count_44 : decode cX7_count 44 = .ok (.getfield 44, 3) := by decide +kernel
theorem dX7_count_47 : decode cX7_count 47 = .ok (.iload 5, 2) := by decide +kernel
theorem dX7_count_49 : decode cX7_count 49 = .ok (.baload, 1) := by decide +kernel
theorem dX7_count_50 : decode cX7_count 50 = .ok (.ifCond .eq 7, 3) := by decide +kernel
theorem dX7_count_53 : decode cX7_count 53 = .ok (.iconst 1, 1) := by decide +kernel
theorem dX7_count_54 : decode cX7_count 54 = .ok (.goto 4, 3) := by decide +kernel
theorem dX7_count_57 : decode cX7_count 57 = .ok (.iconst 0, 1) := by decide +kernel
theorem dX7_count_58 : decode cX7_count 58 = .ok (.iadd, 1) := by decide +kernel
theorem dX7_count_59 : decode cX7_count 59 = .ok (.istore_n 3, 1) := by decide +kernel
theorem dX7_count_60 : decode cX7_count 60 = .ok (.iinc 5 1, 3) := by decide +kernel
theorem dX7_count_63 : decode cX7_count 63 = .ok (.goto (-27), 3) := by decide +kernel
theorem dX7_count_66 : decode cX7_count 66 = .ok (.iconst 0, 1) := by decide +kernel
theorem dX7_count_67 : decode cX7_count 67 = .ok (.istore 5, 2) := by decide +kernel
theorem dX7_count_69 : decode cX7_count 69 = .ok (.iload 5, 2) := by decide +kernel
theorem dX7_count_71 : decode cX7_count 71 = .ok (.bipush 12, 2) := by decide +kernel
theorem dX7_count_73 : decode cX7_count 73 = .ok (.if_icmp .ge 29, 3) := by decide +kernel
theorem dX7_count_76 : decode cX7_count 76 = .ok (.iload 4, 2) := by decide +kernel
theorem dX7_count_78 : decode cX7_count 78 = .ok (.aload_n 0, 1) := by decide +kernel
theorem dX7_count_79 : decode cX7_count 79 = .ok (.getfield 51, 3) := by decide +kernel
theorem dX7_count_82 : decode cX7_count 82 = .ok (.iload 5, 2) := by decide +kernel
theorem dX7_count_84 : decode cX7_count 84 = .ok (.iaload, 1) := by decide +kernel
theorem dX7_count_85 : decode cX7_count 85 = .ok (.ifCond .le 7, 3) := by decide +kernel
theorem dX7_count_88 : decode cX7_count 88 = .ok (.iconst 1, 1) := by decide +kernel
theorem dX7_count_89 : decode cX7_count 89 = .ok (.goto 4, 3) := by decide +kernel
theorem dX7_count_92 : decode cX7_count 92 = .ok (.iconst 0, 1) := by decide +kernel
theorem dX7_count_93 : decode cX7_count 93 = .ok (.iadd, 1) := by decide +kernel
theorem dX7_count_94 : decode cX7_count 94 = .ok (.istore 4, 2) := by decide +kernel
theorem dX7_count_96 : decode cX7_count 96 = .ok (.iinc 5 1, 3) := by decide +kernel
theorem dX7_count_99 : decode cX7_count 99 = .ok (.goto (-30), 3) := by decide +kernel
theorem dX7_count_102 : decode cX7_count 102 = .ok (.iload_n 1, 1) := by decide +kernel
theorem dX7_count_103 : decode cX7_count 103 = .ok (.tableswitch 41 0 3 #[29, 31, 36, 38], 29) := by decide +kernel
theorem dX7_count_132 : decode cX7_count 132 = .ok (.iload_n 2, 1) := by decide +kernel
theorem dX7_count_133 : decode cX7_count 133 = .ok (.ireturn, 1) := by decide +kernel
theorem dX7_count_134 : decode cX7_count 134 = .ok (.aload_n 0, 1) := by decide +kernel
theorem dX7_count_135 : decode cX7_count 135 = .ok (.getfield 90, 3) := by decide +kernel
theorem dX7_count_138 : decode cX7_count 138 = .ok (.ireturn, 1) := by decide +kernel
theorem dX7_count_139 : decode cX7_count 139 = .ok (.iload_n 3, 1) := by decide +kernel
theorem dX7_count_140 : decode cX7_count 140 = .ok (.ireturn, 1) := by decide +kernel
theorem dX7_count_141 : decode cX7_count 141 = .ok (.iload 4, 2) := by decide +kernel
theorem dX7_count_143 : decode cX7_count 143 = .ok (.ireturn, 1) := by decide +kernel
theorem dX7_count_144 : decode cX7_count 144 = .ok (.iconst (-1), 1) := by decide +kernel
theorem dX7_count_145 : decode cX7_count 145 = .ok (.ireturn, 1) := by decide +kernel
end
section
section WST
variable {G : gG} {q q2 : mD} {mc ms sz kc ks pc mc2 ms2 : Nat} {M0 M : wM} {lv : List (Nat × Value)} {st rest : List Value} {Post Post2 : Option Value → wM → Prop}
theorem wup_eq (M : wM) (a : Nat) (e : va_E) : wup M a e a = some e := by unfold wup; rw [if_pos rfl]
theorem wup_ne (M : wM) {a b : Nat} (e : va_E) (h : b ≠ a) : wup M a e b = M b := by unfold wup; rw [if_neg h]
/-- another cell stays: by its content it isn't the one that is written -/
theorem wup_o (M : wM) {a b : Nat} {e0 e1 x : va_E} (ha : M a = some e0) (hb : M b = some x) (hne : x ≠ e0) : wup M a e1 b = some x := by
  rw [wup_ne M e1 (fun h => hne (by rw [h, ha] at hb; exact (Option.some.inj hb).symm))]
  exact hb
theorem kP {f : Int → Prop} (k : ∀ r, rng r → f r → wV G q mc ms sz M0 (kc + mc2) (ks + ms2) (pc + 3) lv (.int (gI r) :: rest) M Post) : ∀ v M', iP (fun r M' => M' = M ∧ f r) v M' → wV G q mc ms sz M0 (kc + mc2) (ks + ms2) (pc + 3) lv (v.toList ++ rest) M' Post := by
  rintro v M' ⟨r, rfl, hr, rfl, h⟩
  exact k r hr h
theorem kRp {f : Nat → Prop} (k : ∀ a, f a → wV G q mc ms sz M0 (kc + mc2) (ks + ms2) (pc + 3) lv (.ref a :: rest) M Post) : ∀ v M', rP (fun r M' => M' = M ∧ f r) v M' → wV G q mc ms sz M0 (kc + mc2) (ks + ms2) (pc + 3) lv (v.toList ++ rest) M' Post := by
  rintro v M' ⟨r, rfl, rfl, h⟩
  exact k r h
/-- numbers of a row: its length, ticks and values -/
def rowOK (n : Int) (T V : Nat → Int) : Prop := 0 ≤ n ∧ n ≤ 50 ∧ ∀ j : Nat, (j : Int) < n → 0 ≤ T j ∧ T j ≤ 4000 ∧ 0 ≤ V j ∧ V j ≤ 256
def rowAt (G : gG) (M : wM) (r tk vl : Nat) (n : Int) (T V : Nat → Int) : Prop :=
  M r = some (.inr (4, [.ref tk, .ref vl, .int (gI n)])) ∧ M tk = some (.inl (G.2.2 0, 50, .inl (gF T))) ∧ M vl = some (.inl (G.2.2 0, 50, .inl (gF V))) ∧ rowOK n T V
theorem rowAt.rg {r tk vl : Nat} {n : Int} {T V : Nat → Int} (h : rowAt G M r tk vl n T V) : 0 ≤ n ∧ n ≤ 50 := ⟨h.2.2.2.1, h.2.2.2.2.1⟩
theorem rowAt.ok {r tk vl : Nat} {n : Int} {T V : Nat → Int} (h : rowAt G M r tk vl n T V) {i : Int} (h0 : 0 ≤ i) (h1 : i < n) : 0 ≤ T i.toNat ∧ T i.toNat ≤ 4000 ∧ 0 ≤ V i.toNat ∧ V i.toNat ≤ 256 := h.2.2.2.2.2 i.toNat (by omega)
def tickF (n : Int) (T : Nat → Int) (i : Int) : Int := if i < 0 then -1 else if i < n then T i.toNat else 1000000
def valF (n : Int) (V : Nat → Int) (i : Int) : Int := if 0 ≤ i ∧ i < n then V i.toNat else 256
theorem tickF_rg {n : Int} {T V : Nat → Int} (h : rowOK n T V) (i : Int) : -1 ≤ tickF n T i ∧ tickF n T i ≤ 1000000 := by
  unfold tickF
  split
  · omega
  · split
    · have := h.2.2 i.toNat (by omega)
      omega
    · omega
theorem valF_rg {n : Int} {T V : Nat → Int} (h : rowOK n T V) (i : Int) : 0 ≤ valF n V i ∧ valF n V i ≤ 256 := by
  unfold valF
  split
  · have := h.2.2 i.toNat (by omega)
    omega
  · omega
/-- the index of the latest change not behind a tick, of rising ticks -/
def lateP (n : Int) (T : Nat → Int) (t r : Int) : Prop := -1 ≤ r ∧ r < n ∧ ((∀ i j : Nat, i < j → (j : Int) < n → T i < T j) → (∀ j : Nat, (j : Int) ≤ r → T j ≤ t) ∧ ∀ j : Nat, r < (j : Int) → (j : Int) < n → t < T j)
end WST
end
section
abbrev sG : Type := Nat → Nat → Nat → Int
def ups (s : sG) (k i j : Nat) (v : Int) : sG := fun k' i' => if k' = k ∧ i' = i then upz (s k i) j v else s k' i'
theorem ups_at (s : sG) (k i j : Nat) (v : Int) : ups s k i j v k i = upz (s k i) j v := by unfold ups; rw [if_pos ⟨rfl, rfl⟩]
theorem ups_k (s : sG) {k i j : Nat} {v : Int} {k' i' : Nat} (h : k' ≠ k) : ups s k i j v k' i' = s k' i' := by unfold ups; rw [if_neg (fun q => h q.1)]
theorem ups_i (s : sG) {k i j : Nat} {v : Int} {k' i' : Nat} (h : i' ≠ i) : ups s k i j v k' i' = s k' i' := by unfold ups; rw [if_neg (fun q => h q.2)]
/-- a world of cells of kinds: how many of each kind, where they lie, what a cell holds of the numbers of its place -/
def wJ (cnt : Nat → Nat) (fw : Nat → Nat → Nat) : Prop := ∀ k i k' i' : Nat, i < cnt k → i' < cnt k' → fw k i = fw k' i' → k = k' ∧ i = i'
def wH (cnt : Nat → Nat) (cell : Nat → Nat → (Nat → Int) → va_E) (fw : Nat → Nat → Nat) (s : sG) (M : wM) : Prop := ∀ k i : Nat, i < cnt k → M (fw k i) = some (cell k i (s k i))
def wO (cnt : Nat → Nat) (fw : Nat → Nat → Nat) (M M' : wM) : Prop := ∀ a, (∀ k i, i < cnt k → a ≠ fw k i) → M' a = M a
theorem wO.rf {cnt : Nat → Nat} {fw : Nat → Nat → Nat} {M : wM} : wO cnt fw M M := fun _ _ => rfl
theorem wO.tr {cnt : Nat → Nat} {fw : Nat → Nat → Nat} {M M1 M2 : wM} (h : wO cnt fw M M1) (h2 : wO cnt fw M1 M2) : wO cnt fw M M2 := fun a ha => (h2 a ha).trans (h a ha)
theorem wO.up {cnt : Nat → Nat} {fw : Nat → Nat → Nat} {M M1 : wM} {k i : Nat} {e : va_E} (h : wO cnt fw M M1) (hi : i < cnt k) : wO cnt fw M (wup M1 (fw k i) e) := fun a ha => (wup_ne M1 e (ha k i hi)).trans (h a ha)
theorem wH.up {cnt : Nat → Nat} {cell : Nat → Nat → (Nat → Int) → va_E} {fw : Nat → Nat → Nat} {s : sG} {M : wM} (hJ : wJ cnt fw) (h : wH cnt cell fw s M) {k i : Nat} (j : Nat) (v : Int) (hi : i < cnt k) {e : va_E} (he : cell k i (upz (s k i) j v) = e) : wH cnt cell fw (ups s k i j v) (wup M (fw k i) e) := by
  intro k' i' hi'
  by_cases hq : fw k' i' = fw k i
  · obtain ⟨rfl, rfl⟩ := hJ _ _ _ _ hi' hi hq
    rw [wup_eq, ups_at, he]
  · rw [wup_ne _ _ hq]
    have : ¬ (k' = k ∧ i' = i) := fun z => hq (by rw [z.1, z.2])
    unfold ups
    rw [if_neg this]
    exact h k' i' hi'
/-! the class -/
def cntX (k : Nat) : Nat := if k < 10 then 1 else if k < 13 then 45 else if k = 13 then 10 else if k = 14 then 4 else if k = 15 then 12 else if k = 16 then 11 else 0
def cellX (G : gG) (fw : Nat → Nat → Nat) (k i : Nat) (f : Nat → Int) : va_E := match k with
  | 0 => .inr (6, [.ref (fw 1 0), .ref (fw 2 0), .ref (fw 3 0), .ref (fw 4 0), .ref (fw 5 0), .ref (fw 6 0), .ref (fw 7 0), .ref (fw 8 0), .int (gI (f 8)), .int (gI (f 9)), .int (gI (f 10))])
  | 1 => .inl (G.2.2 2, 24, .inr (.inr (.inr (.inr (fun j => some (fw 10 j))))))
  | 2 => .inl (G.2.2 0, 12, .inl (gF f))
  | 3 => .inl (G.2.2 0, 12, .inl (gF f))
  | 4 => .inl (G.2.2 0, 4, .inl (gF f))
  | 5 => .inl (G.2.2 3, 10, .inr (.inr (.inr (.inr (fun j => some (fw 13 j))))))
  | 6 => .inl (G.2.2 4, 4, .inr (.inr (.inr (.inr (fun j => some (fw 14 j))))))
  | 7 => .inl (G.2.2 5, 12, .inr (.inr (.inr (.inr (fun j => some (fw 15 j))))))
  | 8 => .inr (5, [.ref (fw 9 0), .int (gI (f 1)), .int (gI (f 2)), .int (gI (f 3)), .int (gI (f 4))])
  | 9 => .inl (G.2.2 6, 11, .inr (.inr (.inr (.inr (fun j => some (fw 16 j))))))
  | 10 => .inr (4, [.ref (fw 11 i), .ref (fw 12 i), .int (gI (f 2))])
  | 11 => .inl (G.2.2 0, 50, .inl (gF f))
  | 12 => .inl (G.2.2 0, 50, .inl (gF f))
  | 13 => .inr (2, [.ref (fw 10 (24 + i)), .int (gI (f 1)), .ref (fw 10 (f 2).toNat), .int (gI (f 3))])
  | 14 => .inr (0, [.int (gI (f 0)), .int (gI (f 1)), .int (gI (f 2)), .int (gI (f 3)), .int (gI (f 4))])
  | 15 => .inr (1, [.int (gI (f 0)), .int (gI (f 1)), .int (gI (f 2))])
  | _ => .inr (3, [.ref (fw 10 (34 + i)), .ref (fw 10 (f 1).toNat), .ref (fw 10 (f 2).toNat), .int (gI (f 3)), .int (gI (f 4)), .int (gI (f 5))])
abbrev bt (lo x hi : Int) : Prop := lo ≤ x ∧ x ≤ hi
def invX (s : sG) : Prop :=
  (bt 0 (s 0 0 8) 10 ∧ bt 1 (s 0 0 9) 4000 ∧ bt 0 (s 0 0 10) 1) ∧
  (∀ j : Nat, j < 12 → bt 0 (s 2 0 j) 11 ∧ bt 0 (s 3 0 j) 3) ∧
  (∀ j : Nat, j < 4 → bt (-50) (s 4 0 j) 50) ∧
  (bt 0 (s 8 0 1) 11 ∧ rng (s 8 0 2) ∧ rng (s 8 0 3) ∧ rng (s 8 0 4)) ∧
  (∀ i : Nat, i < 45 → rowOK (s 10 i 2) (s 11 i) (s 12 i)) ∧
  (∀ i : Nat, i < 10 → bt 0 (s 13 i 1) 11 ∧ bt 0 (s 13 i 2) 44 ∧ bt 0 (s 13 i 3) 256) ∧
  (∀ i : Nat, i < 4 → bt 0 (s 14 i 0) 1 ∧ bt 0 (s 14 i 1) 11 ∧ bt 0 (s 14 i 2) 11 ∧ bt 0 (s 14 i 3) 11 ∧ bt 0 (s 14 i 4) 11) ∧
  (∀ i : Nat, i < 12 → bt 0 (s 15 i 0) 6 ∧ bt 0 (s 15 i 1) 11 ∧ bt 0 (s 15 i 2) 11) ∧
  (∀ i : Nat, i < 11 → bt 0 (s 16 i 1) 44 ∧ bt 0 (s 16 i 2) 44 ∧ bt (-50) (s 16 i 3) 50 ∧ bt 0 (s 16 i 4) 1 ∧ bt 0 (s 16 i 5) 1)
/-- the class's world -/
def wX (G : gG) (fw : Nat → Nat → Nat) (s : sG) (M : wM) : Prop := wJ cntX fw ∧ wH cntX (cellX G fw) fw s M ∧ invX s
/-- what is written by every question: the spans, the pairs and their steady rows -/
def scrX (k i : Nat) : Prop := k = 8 ∨ k = 16 ∨ (10 ≤ k ∧ k ≤ 12 ∧ 34 ≤ i)
def keepX (s s' : sG) : Prop := ∀ k i, ¬ scrX k i → s' k i = s k i
theorem keepX.rf {s : sG} : keepX s s := fun _ _ _ => rfl
theorem keepX.tr {s s1 s2 : sG} (h : keepX s s1) (h2 : keepX s1 s2) : keepX s s2 := fun k i q => (h2 k i q).trans (h k i q)
section WX
variable {G : gG} {fw : Nat → Nat → Nat} {s : sG} {M : wM}
theorem wX.c (h : wX G fw s M) (k i : Nat) (hi : i < cntX k) : M (fw k i) = some (cellX G fw k i (s k i)) := h.2.1 k i hi
theorem wX.row (h : wX G fw s M) {i : Nat} (hi : i < 45) : rowAt G M (fw 10 i) (fw 11 i) (fw 12 i) (s 10 i 2) (s 11 i) (s 12 i) := ⟨h.c 10 i hi, h.c 11 i hi, h.c 12 i hi, h.2.2.2.2.2.2.1 i hi⟩
end WX
/-! the reference -/
def cntY (k : Nat) : Nat := if k < 16 then 1 else 0
def cellY (G : gG) (fw : Nat → Nat → Nat) (k _i : Nat) (f : Nat → Int) : va_E := match k with
  | 0 => .inr (7, [.int (gI (f 0)), .int (gI (f 1)), .ref (fw 1 0), .ref (fw 2 0), .ref (fw 3 0), .ref (fw 4 0), .ref (fw 5 0), .ref (fw 6 0), .int (gI (f 8)), .ref (fw 7 0), .ref (fw 8 0), .ref (fw 9 0), .ref (fw 10 0), .ref (fw 11 0), .ref (fw 12 0), .ref (fw 13 0), .ref (fw 14 0), .ref (fw 15 0), .int (gI (f 18)), .int (gI (f 19)), .int (gI (f 20)), .int (gI (f 21)), .int (gI (f 22))])
  | 1 => .inl (G.2.2 0, 24, .inl (gF f))
  | 2 => .inl (G.2.2 0, 1200, .inl (gF f))
  | 3 => .inl (G.2.2 0, 1200, .inl (gF f))
  | 4 => .inl (G.2.2 0, 12, .inl (gF f))
  | 5 => .inl (G.2.2 0, 12, .inl (gF f))
  | 6 => .inl (G.2.2 0, 4, .inl (gF f))
  | 7 => .inl (G.2.2 0, 10, .inl (gF f))
  | 8 => .inl (G.2.2 0, 10, .inl (gF f))
  | 9 => .inl (G.2.2 0, 10, .inl (gF f))
  | 10 => .inl (G.2.2 0, 10, .inl (gF f))
  | 11 => .inl (G.2.2 1, 4, .inl (gF f))
  | 12 => .inl (G.2.2 0, 16, .inl (gF f))
  | 13 => .inl (G.2.2 0, 12, .inl (gF f))
  | 14 => .inl (G.2.2 0, 12, .inl (gF f))
  | _ => .inl (G.2.2 0, 12, .inl (gF f))
def invY (s : sG) : Prop :=
  (bt 1 (s 0 0 0) 4000 ∧ bt 0 (s 0 0 1) 1 ∧ bt 0 (s 0 0 8) 10 ∧ rng (s 0 0 18) ∧ rng (s 0 0 19) ∧ rng (s 0 0 20) ∧ rng (s 0 0 21) ∧ rng (s 0 0 22)) ∧
  (∀ r : Nat, r < 24 → bt 0 (s 1 0 r) 50 ∧ ∀ j : Nat, (j : Int) < s 1 0 r → bt 0 (s 2 0 (50 * r + j)) 3999 ∧ bt 0 (s 3 0 (50 * r + j)) 256) ∧
  (∀ j : Nat, j < 12 → bt 0 (s 4 0 j) 11 ∧ bt 0 (s 5 0 j) 3) ∧
  (∀ j : Nat, j < 4 → bt (-50) (s 6 0 j) 50) ∧
  (∀ i : Nat, (i : Int) < s 0 0 8 → bt 0 (s 7 0 i) 11 ∧ bt 0 (s 8 0 i) 4000 ∧ bt 0 (s 9 0 i) 4000 ∧ bt (-1) (s 10 0 i) 11) ∧
  (∀ i : Nat, i < 4 → bt 0 (s 11 0 i) 1) ∧
  (∀ i : Nat, i < 16 → bt 0 (s 12 0 i) 11) ∧
  (∀ i : Nat, i < 12 → bt 0 (s 13 0 i) 6 ∧ rng (s 14 0 i) ∧ rng (s 15 0 i) ∧ (0 < s 13 0 i → bt 0 (s 14 0 i) 11) ∧ (1 < s 13 0 i → bt 0 (s 15 0 i) 11))
def wY (G : gG) (fw : Nat → Nat → Nat) (s : sG) (M : wM) : Prop := wJ cntY fw ∧ wH cntY (cellY G fw) fw s M ∧ invY s
theorem wY.c {G : gG} {fw : Nat → Nat → Nat} {s : sG} {M : wM} (h : wY G fw s M) (k i : Nat) (hi : i < cntY k) : M (fw k i) = some (cellY G fw k i (s k i)) := h.2.1 k i hi
/-- the reference's own scratch: the fields behind the seventeenth of the object -/
def keepY (s s' : sG) : Prop := ∀ k i j, ¬ (k = 0 ∧ 18 ≤ j) → s' k i j = s k i j
theorem keepY.rf {s : sG} : keepY s s := fun _ _ _ _ => rfl
theorem keepY.tr {s s1 s2 : sG} (h : keepY s s1) (h2 : keepY s1 s2) : keepY s s2 := fun k i j q => (h2 k i j q).trans (h k i j q)
end
section
section W18
variable {G : gG} {q : mD} {mc ms sz kc ks pc : Nat} {M0 M : wM} {lv : List (Nat × Value)} {st : List Value}
theorem v_iretA {f : Int → wM → Prop} {x : Int32} (hd : decode q.2.1 pc = .ok (.ireturn, 1)) (hr : q.2.2.2.1 = some .int) (hk : kc ≤ mc ∧ ks ≤ ms) (h : f x.toInt M) : wV G q mc ms sz M0 kc ks pc lv [.int x] M (iP f) := by
  have hx := gI_of x
  rw [hx]
  exact v_iret hd hr hk (rng_of x) h
theorem ups_kf (s : sG) {k i j : Nat} {v : Int} {k' : Nat} (h : k' ≠ k) : ups s k i j v k' = s k' := by funext i'; exact ups_k s h
end W18
theorem invX_z {s t : sG} (h : invX s) (hk : ∀ k, k ≠ 0 → t k = s k) (hn : (bt 0 (t 0 0 8) 10 ∧ bt 1 (t 0 0 9) 4000 ∧ bt 0 (t 0 0 10) 1)) : invX t := by
  obtain ⟨c0, c1, c2, c3, c4, c5, c6, c7, c8⟩ := h
  exact ⟨hn, by simp only [hk 2 (by decide), hk 3 (by decide)]; exact c1, by simp only [hk 4 (by decide)]; exact c2, by rw [hk 8 (by decide)]; exact c3, by simp only [hk 10 (by decide), hk 11 (by decide), hk 12 (by decide)]; exact c4, by simp only [hk 13 (by decide)]; exact c5, by simp only [hk 14 (by decide)]; exact c6, by simp only [hk 15 (by decide)]; exact c7, by simp only [hk 16 (by decide)]; exact c8⟩
theorem invX_n {s t : sG} (h : invX s) (hk : ∀ k, k ≠ 2 → k ≠ 3 → t k = s k) (hn : (∀ j : Nat, j < 12 → bt 0 (t 2 0 j) 11 ∧ bt 0 (t 3 0 j) 3)) : invX t := by
  obtain ⟨c0, c1, c2, c3, c4, c5, c6, c7, c8⟩ := h
  exact ⟨by rw [hk 0 (by decide) (by decide)]; exact c0, hn, by simp only [hk 4 (by decide) (by decide)]; exact c2, by rw [hk 8 (by decide) (by decide)]; exact c3, by simp only [hk 10 (by decide) (by decide), hk 11 (by decide) (by decide), hk 12 (by decide) (by decide)]; exact c4, by simp only [hk 13 (by decide) (by decide)]; exact c5, by simp only [hk 14 (by decide) (by decide)]; exact c6, by simp only [hk 15 (by decide) (by decide)]; exact c7, by simp only [hk 16 (by decide) (by decide)]; exact c8⟩
theorem invX_h {s t : sG} (h : invX s) (hk : ∀ k, k ≠ 4 → t k = s k) (hn : (∀ j : Nat, j < 4 → bt (-50) (t 4 0 j) 50)) : invX t := by
  obtain ⟨c0, c1, c2, c3, c4, c5, c6, c7, c8⟩ := h
  exact ⟨by rw [hk 0 (by decide)]; exact c0, by simp only [hk 2 (by decide), hk 3 (by decide)]; exact c1, hn, by rw [hk 8 (by decide)]; exact c3, by simp only [hk 10 (by decide), hk 11 (by decide), hk 12 (by decide)]; exact c4, by simp only [hk 13 (by decide)]; exact c5, by simp only [hk 14 (by decide)]; exact c6, by simp only [hk 15 (by decide)]; exact c7, by simp only [hk 16 (by decide)]; exact c8⟩
theorem invX_p {s t : sG} (h : invX s) (hk : ∀ k, k ≠ 8 → t k = s k) (hn : (bt 0 (t 8 0 1) 11 ∧ rng (t 8 0 2) ∧ rng (t 8 0 3) ∧ rng (t 8 0 4))) : invX t := by
  obtain ⟨c0, c1, c2, c3, c4, c5, c6, c7, c8⟩ := h
  exact ⟨by rw [hk 0 (by decide)]; exact c0, by simp only [hk 2 (by decide), hk 3 (by decide)]; exact c1, by simp only [hk 4 (by decide)]; exact c2, hn, by simp only [hk 10 (by decide), hk 11 (by decide), hk 12 (by decide)]; exact c4, by simp only [hk 13 (by decide)]; exact c5, by simp only [hk 14 (by decide)]; exact c6, by simp only [hk 15 (by decide)]; exact c7, by simp only [hk 16 (by decide)]; exact c8⟩
theorem invX_r {s t : sG} (h : invX s) (hk : ∀ k, k ≠ 10 → k ≠ 11 → k ≠ 12 → t k = s k) (hn : (∀ i : Nat, i < 45 → rowOK (t 10 i 2) (t 11 i) (t 12 i))) : invX t := by
  obtain ⟨c0, c1, c2, c3, c4, c5, c6, c7, c8⟩ := h
  exact ⟨by rw [hk 0 (by decide) (by decide) (by decide)]; exact c0, by simp only [hk 2 (by decide) (by decide) (by decide), hk 3 (by decide) (by decide) (by decide)]; exact c1, by simp only [hk 4 (by decide) (by decide) (by decide)]; exact c2, by rw [hk 8 (by decide) (by decide) (by decide)]; exact c3, hn, by simp only [hk 13 (by decide) (by decide) (by decide)]; exact c5, by simp only [hk 14 (by decide) (by decide) (by decide)]; exact c6, by simp only [hk 15 (by decide) (by decide) (by decide)]; exact c7, by simp only [hk 16 (by decide) (by decide) (by decide)]; exact c8⟩
theorem invX_m {s t : sG} (h : invX s) (hk : ∀ k, k ≠ 13 → t k = s k) (hn : (∀ i : Nat, i < 10 → bt 0 (t 13 i 1) 11 ∧ bt 0 (t 13 i 2) 44 ∧ bt 0 (t 13 i 3) 256)) : invX t := by
  obtain ⟨c0, c1, c2, c3, c4, c5, c6, c7, c8⟩ := h
  exact ⟨by rw [hk 0 (by decide)]; exact c0, by simp only [hk 2 (by decide), hk 3 (by decide)]; exact c1, by simp only [hk 4 (by decide)]; exact c2, by rw [hk 8 (by decide)]; exact c3, by simp only [hk 10 (by decide), hk 11 (by decide), hk 12 (by decide)]; exact c4, hn, by simp only [hk 14 (by decide)]; exact c6, by simp only [hk 15 (by decide)]; exact c7, by simp only [hk 16 (by decide)]; exact c8⟩
theorem invX_c {s t : sG} (h : invX s) (hk : ∀ k, k ≠ 14 → t k = s k) (hn : (∀ i : Nat, i < 4 → bt 0 (t 14 i 0) 1 ∧ bt 0 (t 14 i 1) 11 ∧ bt 0 (t 14 i 2) 11 ∧ bt 0 (t 14 i 3) 11 ∧ bt 0 (t 14 i 4) 11)) : invX t := by
  obtain ⟨c0, c1, c2, c3, c4, c5, c6, c7, c8⟩ := h
  exact ⟨by rw [hk 0 (by decide)]; exact c0, by simp only [hk 2 (by decide), hk 3 (by decide)]; exact c1, by simp only [hk 4 (by decide)]; exact c2, by rw [hk 8 (by decide)]; exact c3, by simp only [hk 10 (by decide), hk 11 (by decide), hk 12 (by decide)]; exact c4, by simp only [hk 13 (by decide)]; exact c5, hn, by simp only [hk 15 (by decide)]; exact c7, by simp only [hk 16 (by decide)]; exact c8⟩
theorem invX_g {s t : sG} (h : invX s) (hk : ∀ k, k ≠ 15 → t k = s k) (hn : (∀ i : Nat, i < 12 → bt 0 (t 15 i 0) 6 ∧ bt 0 (t 15 i 1) 11 ∧ bt 0 (t 15 i 2) 11)) : invX t := by
  obtain ⟨c0, c1, c2, c3, c4, c5, c6, c7, c8⟩ := h
  exact ⟨by rw [hk 0 (by decide)]; exact c0, by simp only [hk 2 (by decide), hk 3 (by decide)]; exact c1, by simp only [hk 4 (by decide)]; exact c2, by rw [hk 8 (by decide)]; exact c3, by simp only [hk 10 (by decide), hk 11 (by decide), hk 12 (by decide)]; exact c4, by simp only [hk 13 (by decide)]; exact c5, by simp only [hk 14 (by decide)]; exact c6, hn, by simp only [hk 16 (by decide)]; exact c8⟩
theorem invX_q {s t : sG} (h : invX s) (hk : ∀ k, k ≠ 16 → t k = s k) (hn : (∀ i : Nat, i < 11 → bt 0 (t 16 i 1) 44 ∧ bt 0 (t 16 i 2) 44 ∧ bt (-50) (t 16 i 3) 50 ∧ bt 0 (t 16 i 4) 1 ∧ bt 0 (t 16 i 5) 1)) : invX t := by
  obtain ⟨c0, c1, c2, c3, c4, c5, c6, c7, c8⟩ := h
  exact ⟨by rw [hk 0 (by decide)]; exact c0, by simp only [hk 2 (by decide), hk 3 (by decide)]; exact c1, by simp only [hk 4 (by decide)]; exact c2, by rw [hk 8 (by decide)]; exact c3, by simp only [hk 10 (by decide), hk 11 (by decide), hk 12 (by decide)]; exact c4, by simp only [hk 13 (by decide)]; exact c5, by simp only [hk 14 (by decide)]; exact c6, by simp only [hk 15 (by decide)]; exact c7, hn⟩
theorem invY_z {s t : sG} (h : invY s) (hk : ∀ k, k ≠ 0 → t k = s k) (n0 : (bt 1 (t 0 0 0) 4000 ∧ bt 0 (t 0 0 1) 1 ∧ bt 0 (t 0 0 8) 10 ∧ rng (t 0 0 18) ∧ rng (t 0 0 19) ∧ rng (t 0 0 20) ∧ rng (t 0 0 21) ∧ rng (t 0 0 22))) (n4 : (∀ i : Nat, (i : Int) < t 0 0 8 → bt 0 (t 7 0 i) 11 ∧ bt 0 (t 8 0 i) 4000 ∧ bt 0 (t 9 0 i) 4000 ∧ bt (-1) (t 10 0 i) 11)) : invY t := by
  obtain ⟨c0, c1, c2, c3, c4, c5, c6, c7⟩ := h
  exact ⟨n0, by simp only [hk 1 (by decide), hk 2 (by decide), hk 3 (by decide)]; exact c1, by simp only [hk 4 (by decide), hk 5 (by decide)]; exact c2, by simp only [hk 6 (by decide)]; exact c3, n4, by simp only [hk 11 (by decide)]; exact c5, by simp only [hk 12 (by decide)]; exact c6, by simp only [hk 13 (by decide), hk 14 (by decide), hk 15 (by decide)]; exact c7⟩
theorem invY_r {s t : sG} (h : invY s) (hk : ∀ k, k ≠ 1 → k ≠ 2 → k ≠ 3 → t k = s k) (n1 : (∀ r : Nat, r < 24 → bt 0 (t 1 0 r) 50 ∧ ∀ j : Nat, (j : Int) < t 1 0 r → bt 0 (t 2 0 (50 * r + j)) 3999 ∧ bt 0 (t 3 0 (50 * r + j)) 256)) : invY t := by
  obtain ⟨c0, c1, c2, c3, c4, c5, c6, c7⟩ := h
  exact ⟨by simp only [hk 0 (by decide) (by decide) (by decide)]; exact c0, n1, by simp only [hk 4 (by decide) (by decide) (by decide), hk 5 (by decide) (by decide) (by decide)]; exact c2, by simp only [hk 6 (by decide) (by decide) (by decide)]; exact c3, by simp only [hk 0 (by decide) (by decide) (by decide), hk 7 (by decide) (by decide) (by decide), hk 8 (by decide) (by decide) (by decide), hk 9 (by decide) (by decide) (by decide), hk 10 (by decide) (by decide) (by decide)]; exact c4, by simp only [hk 11 (by decide) (by decide) (by decide)]; exact c5, by simp only [hk 12 (by decide) (by decide) (by decide)]; exact c6, by simp only [hk 13 (by decide) (by decide) (by decide), hk 14 (by decide) (by decide) (by decide), hk 15 (by decide) (by decide) (by decide)]; exact c7⟩
theorem invY_n {s t : sG} (h : invY s) (hk : ∀ k, k ≠ 4 → k ≠ 5 → t k = s k) (n2 : (∀ j : Nat, j < 12 → bt 0 (t 4 0 j) 11 ∧ bt 0 (t 5 0 j) 3)) : invY t := by
  obtain ⟨c0, c1, c2, c3, c4, c5, c6, c7⟩ := h
  exact ⟨by simp only [hk 0 (by decide) (by decide)]; exact c0, by simp only [hk 1 (by decide) (by decide), hk 2 (by decide) (by decide), hk 3 (by decide) (by decide)]; exact c1, n2, by simp only [hk 6 (by decide) (by decide)]; exact c3, by simp only [hk 0 (by decide) (by decide), hk 7 (by decide) (by decide), hk 8 (by decide) (by decide), hk 9 (by decide) (by decide), hk 10 (by decide) (by decide)]; exact c4, by simp only [hk 11 (by decide) (by decide)]; exact c5, by simp only [hk 12 (by decide) (by decide)]; exact c6, by simp only [hk 13 (by decide) (by decide), hk 14 (by decide) (by decide), hk 15 (by decide) (by decide)]; exact c7⟩
theorem invY_h {s t : sG} (h : invY s) (hk : ∀ k, k ≠ 6 → t k = s k) (n3 : (∀ j : Nat, j < 4 → bt (-50) (t 6 0 j) 50)) : invY t := by
  obtain ⟨c0, c1, c2, c3, c4, c5, c6, c7⟩ := h
  exact ⟨by simp only [hk 0 (by decide)]; exact c0, by simp only [hk 1 (by decide), hk 2 (by decide), hk 3 (by decide)]; exact c1, by simp only [hk 4 (by decide), hk 5 (by decide)]; exact c2, n3, by simp only [hk 0 (by decide), hk 7 (by decide), hk 8 (by decide), hk 9 (by decide), hk 10 (by decide)]; exact c4, by simp only [hk 11 (by decide)]; exact c5, by simp only [hk 12 (by decide)]; exact c6, by simp only [hk 13 (by decide), hk 14 (by decide), hk 15 (by decide)]; exact c7⟩
theorem invY_m {s t : sG} (h : invY s) (hk : ∀ k, k ≠ 0 → k ≠ 7 → k ≠ 8 → k ≠ 9 → k ≠ 10 → t k = s k) (n0 : (bt 1 (t 0 0 0) 4000 ∧ bt 0 (t 0 0 1) 1 ∧ bt 0 (t 0 0 8) 10 ∧ rng (t 0 0 18) ∧ rng (t 0 0 19) ∧ rng (t 0 0 20) ∧ rng (t 0 0 21) ∧ rng (t 0 0 22))) (n4 : (∀ i : Nat, (i : Int) < t 0 0 8 → bt 0 (t 7 0 i) 11 ∧ bt 0 (t 8 0 i) 4000 ∧ bt 0 (t 9 0 i) 4000 ∧ bt (-1) (t 10 0 i) 11)) : invY t := by
  obtain ⟨c0, c1, c2, c3, c4, c5, c6, c7⟩ := h
  exact ⟨n0, by simp only [hk 1 (by decide) (by decide) (by decide) (by decide) (by decide), hk 2 (by decide) (by decide) (by decide) (by decide) (by decide), hk 3 (by decide) (by decide) (by decide) (by decide) (by decide)]; exact c1, by simp only [hk 4 (by decide) (by decide) (by decide) (by decide) (by decide), hk 5 (by decide) (by decide) (by decide) (by decide) (by decide)]; exact c2, by simp only [hk 6 (by decide) (by decide) (by decide) (by decide) (by decide)]; exact c3, n4, by simp only [hk 11 (by decide) (by decide) (by decide) (by decide) (by decide)]; exact c5, by simp only [hk 12 (by decide) (by decide) (by decide) (by decide) (by decide)]; exact c6, by simp only [hk 13 (by decide) (by decide) (by decide) (by decide) (by decide), hk 14 (by decide) (by decide) (by decide) (by decide) (by decide), hk 15 (by decide) (by decide) (by decide) (by decide) (by decide)]; exact c7⟩
theorem invY_b {s t : sG} (h : invY s) (hk : ∀ k, k ≠ 11 → k ≠ 12 → t k = s k) (n5 : (∀ i : Nat, i < 4 → bt 0 (t 11 0 i) 1)) (n6 : (∀ i : Nat, i < 16 → bt 0 (t 12 0 i) 11)) : invY t := by
  obtain ⟨c0, c1, c2, c3, c4, c5, c6, c7⟩ := h
  exact ⟨by simp only [hk 0 (by decide) (by decide)]; exact c0, by simp only [hk 1 (by decide) (by decide), hk 2 (by decide) (by decide), hk 3 (by decide) (by decide)]; exact c1, by simp only [hk 4 (by decide) (by decide), hk 5 (by decide) (by decide)]; exact c2, by simp only [hk 6 (by decide) (by decide)]; exact c3, by simp only [hk 0 (by decide) (by decide), hk 7 (by decide) (by decide), hk 8 (by decide) (by decide), hk 9 (by decide) (by decide), hk 10 (by decide) (by decide)]; exact c4, n5, n6, by simp only [hk 13 (by decide) (by decide), hk 14 (by decide) (by decide), hk 15 (by decide) (by decide)]; exact c7⟩
theorem invY_g {s t : sG} (h : invY s) (hk : ∀ k, k ≠ 13 → k ≠ 14 → k ≠ 15 → t k = s k) (n7 : (∀ i : Nat, i < 12 → bt 0 (t 13 0 i) 6 ∧ rng (t 14 0 i) ∧ rng (t 15 0 i) ∧ (0 < t 13 0 i → bt 0 (t 14 0 i) 11) ∧ (1 < t 13 0 i → bt 0 (t 15 0 i) 11))) : invY t := by
  obtain ⟨c0, c1, c2, c3, c4, c5, c6, c7⟩ := h
  exact ⟨by simp only [hk 0 (by decide) (by decide) (by decide)]; exact c0, by simp only [hk 1 (by decide) (by decide) (by decide), hk 2 (by decide) (by decide) (by decide), hk 3 (by decide) (by decide) (by decide)]; exact c1, by simp only [hk 4 (by decide) (by decide) (by decide), hk 5 (by decide) (by decide) (by decide)]; exact c2, by simp only [hk 6 (by decide) (by decide) (by decide)]; exact c3, by simp only [hk 0 (by decide) (by decide) (by decide), hk 7 (by decide) (by decide) (by decide), hk 8 (by decide) (by decide) (by decide), hk 9 (by decide) (by decide) (by decide), hk 10 (by decide) (by decide) (by decide)]; exact c4, by simp only [hk 11 (by decide) (by decide) (by decide)]; exact c5, by simp only [hk 12 (by decide) (by decide) (by decide)]; exact c6, n7⟩
end
section
theorem invX_mask {s t : sG} (h : invX s) (i : Nat) (ho : ∀ k i', ¬ (k = 13 ∧ i' = i) → t k i' = s k i') (hn : bt 0 (t 13 i 1) 11 ∧ bt 0 (t 13 i 2) 44 ∧ bt 0 (t 13 i 3) 256) : invX t := by
  refine invX_m h (fun k hk => by funext i'; exact ho k i' (fun q => hk q.1)) (fun i' hi' => ?_)
  by_cases q : i' = i
  · subst q
    exact hn
  · rw [ho 13 i' (fun z => q z.2)]
    exact h.2.2.2.2.2.1 i' hi'
theorem invX_chan {s t : sG} (h : invX s) (i : Nat) (ho : ∀ k i', ¬ (k = 14 ∧ i' = i) → t k i' = s k i') (hn : bt 0 (t 14 i 0) 1 ∧ bt 0 (t 14 i 1) 11 ∧ bt 0 (t 14 i 2) 11 ∧ bt 0 (t 14 i 3) 11 ∧ bt 0 (t 14 i 4) 11) : invX t := by
  refine invX_c h (fun k hk => by funext i'; exact ho k i' (fun q => hk q.1)) (fun i' hi' => ?_)
  by_cases q : i' = i
  · subst q
    exact hn
  · rw [ho 14 i' (fun z => q z.2)]
    exact h.2.2.2.2.2.2.1 i' hi'
theorem invX_gate {s t : sG} (h : invX s) (i : Nat) (ho : ∀ k i', ¬ (k = 15 ∧ i' = i) → t k i' = s k i') (hn : bt 0 (t 15 i 0) 6 ∧ bt 0 (t 15 i 1) 11 ∧ bt 0 (t 15 i 2) 11) : invX t := by
  refine invX_g h (fun k hk => by funext i'; exact ho k i' (fun q => hk q.1)) (fun i' hi' => ?_)
  by_cases q : i' = i
  · subst q
    exact hn
  · rw [ho 15 i' (fun z => q z.2)]
    exact h.2.2.2.2.2.2.2.1 i' hi'
theorem invX_pair {s t : sG} (h : invX s) (i : Nat) (ho : ∀ k i', ¬ (k = 16 ∧ i' = i) → t k i' = s k i') (hn : bt 0 (t 16 i 1) 44 ∧ bt 0 (t 16 i 2) 44 ∧ bt (-50) (t 16 i 3) 50 ∧ bt 0 (t 16 i 4) 1 ∧ bt 0 (t 16 i 5) 1) : invX t := by
  refine invX_q h (fun k hk => by funext i'; exact ho k i' (fun q => hk q.1)) (fun i' hi' => ?_)
  by_cases q : i' = i
  · subst q
    exact hn
  · rw [ho 16 i' (fun z => q z.2)]
    exact h.2.2.2.2.2.2.2.2 i' hi'
theorem invX_row {s t : sG} (h : invX s) (i : Nat) (ho : ∀ k i', ¬ (10 ≤ k ∧ k ≤ 12 ∧ i' = i) → t k i' = s k i') (hn : rowOK (t 10 i 2) (t 11 i) (t 12 i)) : invX t := by
  refine invX_r h (fun k h1 h2 h3 => by funext i'; exact ho k i' (by omega)) (fun i' hi' => ?_)
  by_cases q : i' = i
  · subst q
    exact hn
  · rw [ho 10 i' (by omega), ho 11 i' (by omega), ho 12 i' (by omega)]
    exact h.2.2.2.2.1 i' hi'
theorem rowOK.push {n t v : Int} {T V : Nat → Int} (h : rowOK n T V) (hn : n < 50) (ht : bt 0 t 4000) (hv : bt 0 v 256) : rowOK (n + 1) (upz T n.toNat t) (upz V n.toNat v) := by
  obtain ⟨h0, h1, h2⟩ := h
  refine ⟨by omega, by omega, fun j hj => ?_⟩
  unfold upz
  by_cases q : j = n.toNat
  · rw [if_pos q, if_pos q]
    omega
  · rw [if_neg q, if_neg q]
    exact h2 j (by omega)
theorem rowOK.less {n m : Int} {T V : Nat → Int} (h : rowOK n T V) (h0 : 0 ≤ m) (hm : m ≤ n) : rowOK m T V := ⟨h0, Int.le_trans hm h.2.1, fun j hj => h.2.2 j (by omega)⟩
end
section
theorem mono_le {n : Int} {T : Nat → Int} (hs : ∀ i j : Nat, i < j → (j : Int) < n → T i < T j) {m j : Nat} (h : j ≤ m) (hm : (m : Int) < n) : T j ≤ T m := by
  rcases Nat.lt_or_ge j m with h2 | h2
  · exact Int.le_of_lt (hs j m h2 hm)
  · have : j = m := by omega
    subst this
    exact Int.le_refl _
set_option maxHeartbeats 4000000 in
set_option maxRecDepth 100000 in
theorem tX4_size {G : gG} {M : wM} {r tk vl : Nat} {n : Int} {T V : Nat → Int} (hrow : rowAt G M r tk vl n T V) : wT G qX4_size 0 0 [.ref r] M (iP fun x M' => M' = M ∧ x = n) := by
  refine wT.intro (by decide) (Nat.le_of_ble_eq_true rfl) (fun sz => ?_)
  obtain ⟨hn0, hn1⟩ := hrow.rg
  refine v_aloadn dX4_size_0 rfl ?_
  refine v_get dX4_size_1 gf_X4_18 hrow.1 rfl ?_
  exact v_iret dX4_size_4 rfl ⟨(Nat.le_of_ble_eq_true rfl), (Nat.le_of_ble_eq_true rfl)⟩ (by omega) ⟨rfl, rfl⟩
set_option maxHeartbeats 4000000 in
set_option maxRecDepth 100000 in
theorem tX4_lacksRoom {G : gG} {M : wM} {r tk vl : Nat} {n : Int} {T V : Nat → Int} (hrow : rowAt G M r tk vl n T V) {k : Int} (hk : 0 ≤ k ∧ k ≤ 100) : wT G qX4_lacksRoom 0 0 [.ref r, .int (gI k)] M (iP fun x M' => M' = M ∧ ((x = 1 ∧ 50 < n + k) ∨ (x = 0 ∧ n + k ≤ 50))) := by
  refine wT.intro (by decide) (Nat.le_of_ble_eq_true rfl) (fun sz => ?_)
  obtain ⟨hn0, hn1⟩ := hrow.rg
  refine v_aloadn dX4_lacksRoom_0 rfl ?_
  refine v_get dX4_lacksRoom_1 gf_X4_18 hrow.1 rfl ?_
  refine v_iloadn dX4_lacksRoom_4 rfl ?_
  refine v_iadd dX4_lacksRoom_5 ?_
  refine v_bipush dX4_lacksRoom_6 (by decide) ?_
  refine v_icmp_le 15 dX4_lacksRoom_8 (by decide) (by omega) (by omega) (fun h8 => ?_) (fun h8 => ?_)
  · refine v_iconst dX4_lacksRoom_15 ?_
    exact v_zret dX4_lacksRoom_16 rfl ⟨(Nat.le_of_ble_eq_true rfl), (Nat.le_of_ble_eq_true rfl)⟩ (by omega) ⟨rfl, by omega⟩
  · refine v_iconst dX4_lacksRoom_11 ?_
    refine v_goto 16 dX4_lacksRoom_12 (by decide) ?_
    exact v_zret dX4_lacksRoom_16 rfl ⟨(Nat.le_of_ble_eq_true rfl), (Nat.le_of_ble_eq_true rfl)⟩ (by omega) ⟨rfl, by omega⟩
set_option maxHeartbeats 4000000 in
set_option maxRecDepth 100000 in
theorem tX4_tickOf {G : gG} {M : wM} {r tk vl : Nat} {n : Int} {T V : Nat → Int} (hrow : rowAt G M r tk vl n T V) {i : Int} (hi : rng i) : wT G qX4_tickOf 0 0 [.ref r, .int (gI i)] M (iP fun x M' => M' = M ∧ x = tickF n T i) := by
  refine wT.intro (by decide) (Nat.le_of_ble_eq_true rfl) (fun sz => ?_)
  obtain ⟨hn0, hn1⟩ := hrow.rg
  refine v_iloadn dX4_tickOf_0 rfl ?_
  refine v_if_ge 6 dX4_tickOf_1 (by decide) (by omega) (fun h1 => ?_) (fun h1 => ?_)
  · refine v_iloadn dX4_tickOf_6 rfl ?_
    refine v_aloadn dX4_tickOf_7 rfl ?_
    refine v_get dX4_tickOf_8 gf_X4_18 hrow.1 rfl ?_
    refine v_icmp_ge 23 dX4_tickOf_11 (by decide) (by omega) (by omega) (fun h11 => ?_) (fun h11 => ?_)
    · refine v_ldc (n := 1000000) dX4_tickOf_23 (by decide +kernel) ?_
      exact v_iret dX4_tickOf_25 rfl ⟨(Nat.le_of_ble_eq_true rfl), (Nat.le_of_ble_eq_true rfl)⟩ (by first | omega | (have := hrow.ok (i := i) (by omega) (by omega); omega)) ⟨rfl, by unfold tickF; split <;> (try split) <;> first | rfl | omega⟩
    · refine v_aloadn dX4_tickOf_14 rfl ?_
      refine v_get dX4_tickOf_15 gf_X4_9 hrow.1 rfl ?_
      refine v_iloadn dX4_tickOf_18 rfl ?_
      refine v_iald dX4_tickOf_19 hrow.2.1 (by omega) (by omega) (by decide) ?_
      refine v_goto 25 dX4_tickOf_20 (by decide) ?_
      exact v_iret dX4_tickOf_25 rfl ⟨(Nat.le_of_ble_eq_true rfl), (Nat.le_of_ble_eq_true rfl)⟩ (by first | omega | (have := hrow.ok (i := i) (by omega) (by omega); omega)) ⟨rfl, by unfold tickF; split <;> (try split) <;> first | rfl | omega⟩
  · refine v_iconst dX4_tickOf_4 ?_
    exact v_iret dX4_tickOf_5 rfl ⟨(Nat.le_of_ble_eq_true rfl), (Nat.le_of_ble_eq_true rfl)⟩ (by first | omega | (have := hrow.ok (i := i) (by omega) (by omega); omega)) ⟨rfl, by unfold tickF; split <;> (try split) <;> first | rfl | omega⟩
set_option maxHeartbeats 4000000 in
set_option maxRecDepth 100000 in
theorem tX4_valueOf {G : gG} {M : wM} {r tk vl : Nat} {n : Int} {T V : Nat → Int} (hrow : rowAt G M r tk vl n T V) {i : Int} (hi : rng i) : wT G qX4_valueOf 0 0 [.ref r, .int (gI i)] M (iP fun x M' => M' = M ∧ x = valF n V i) := by
  refine wT.intro (by decide) (Nat.le_of_ble_eq_true rfl) (fun sz => ?_)
  obtain ⟨hn0, hn1⟩ := hrow.rg
  refine v_iloadn dX4_valueOf_0 rfl ?_
  refine v_if_lt 21 dX4_valueOf_1 (by decide) (by omega) (fun h1 => ?_) (fun h1 => ?_)
  · refine v_sipush dX4_valueOf_21 (by decide) ?_
    exact v_iret dX4_valueOf_24 rfl ⟨(Nat.le_of_ble_eq_true rfl), (Nat.le_of_ble_eq_true rfl)⟩ (by first | omega | (have := hrow.ok (i := i) (by omega) (by omega); omega)) ⟨rfl, by unfold valF; split <;> first | rfl | omega⟩
  · refine v_iloadn dX4_valueOf_4 rfl ?_
    refine v_aloadn dX4_valueOf_5 rfl ?_
    refine v_get dX4_valueOf_6 gf_X4_18 hrow.1 rfl ?_
    refine v_icmp_ge 21 dX4_valueOf_9 (by decide) (by omega) (by omega) (fun h9 => ?_) (fun h9 => ?_)
    · refine v_sipush dX4_valueOf_21 (by decide) ?_
      exact v_iret dX4_valueOf_24 rfl ⟨(Nat.le_of_ble_eq_true rfl), (Nat.le_of_ble_eq_true rfl)⟩ (by first | omega | (have := hrow.ok (i := i) (by omega) (by omega); omega)) ⟨rfl, by unfold valF; split <;> first | rfl | omega⟩
    · refine v_aloadn dX4_valueOf_12 rfl ?_
      refine v_get dX4_valueOf_13 gf_X4_15 hrow.1 rfl ?_
      refine v_iloadn dX4_valueOf_16 rfl ?_
      refine v_iald dX4_valueOf_17 hrow.2.2.1 (by omega) (by omega) (by decide) ?_
      refine v_goto 24 dX4_valueOf_18 (by decide) ?_
      exact v_iret dX4_valueOf_24 rfl ⟨(Nat.le_of_ble_eq_true rfl), (Nat.le_of_ble_eq_true rfl)⟩ (by first | omega | (have := hrow.ok (i := i) (by omega) (by omega); omega)) ⟨rfl, by unfold valF; split <;> first | rfl | omega⟩
set_option maxHeartbeats 4000000 in
set_option maxRecDepth 100000 in
theorem tX4_lastTick {G : gG} {M : wM} {r tk vl : Nat} {n : Int} {T V : Nat → Int} (hrow : rowAt G M r tk vl n T V) : wT G qX4_lastTick 0 0 [.ref r] M (iP fun x M' => M' = M ∧ x = tickF n T (n - 1)) := by
  refine wT.intro (by decide) (Nat.le_of_ble_eq_true rfl) (fun sz => ?_)
  obtain ⟨hn0, hn1⟩ := hrow.rg
  refine v_aloadn dX4_lastTick_0 rfl ?_
  refine v_aloadn dX4_lastTick_1 rfl ?_
  refine v_get dX4_lastTick_2 gf_X4_18 hrow.1 rfl ?_
  refine v_iconst dX4_lastTick_5 ?_
  refine v_isub dX4_lastTick_6 ?_
  refine v_callV (tX4_tickOf hrow (by omega)) lc_X4_26 ⟨(Nat.le_of_ble_eq_true rfl), (Nat.le_of_ble_eq_true rfl)⟩ dX4_lastTick_7 rfl rfl (Nat.le_of_ble_eq_true rfl) ⟨(Nat.le_of_ble_eq_true rfl), (Nat.le_of_ble_eq_true rfl)⟩ ⟨_, _, _, _, hrow.1, rfl⟩ (kP fun r7 hr7 hp7 => ?_)
  exact v_iret dX4_lastTick_10 rfl ⟨(Nat.le_of_ble_eq_true rfl), (Nat.le_of_ble_eq_true rfl)⟩ (by omega) ⟨rfl, by assumption⟩
set_option maxHeartbeats 4000000 in
set_option maxRecDepth 100000 in
theorem tX4_latest_loop {G : gG} {M : wM} {r tk vl : Nat} {n : Int} {T V : Nat → Int} (hrow : rowAt G M r tk vl n T V) {t : Int} (ht : rng t) {sz : Nat} : ∀ (k : Nat) (lo hi sp md : Int), sp = 51 - k → 0 ≤ sp → 0 ≤ lo → lo ≤ hi → hi ≤ n → hi - lo ≤ 50 - sp ∨ lo = hi → ((∀ i j : Nat, i < j → (j : Int) < n → T i < T j) → (∀ j : Nat, (j : Int) < lo → T j ≤ t) ∧ ∀ j : Nat, hi ≤ (j : Int) → (j : Int) < n → t < T j) → wV G qX4_latest 0 0 sz M 0 0 10 [(0, .ref r), (1, .int (gI t)), (2, .int (gI lo)), (3, .int (gI hi)), (4, .int (gI sp))] [] M (iP fun x M' => M' = M ∧ lateP n T t x) := by
  obtain ⟨hn0, hn1⟩ := hrow.rg
  intro k
  induction k with
  | zero =>
    intro lo hi sp md hsp hsp0 h1 h2 h3 h4 h5
    refine v_iload dX4_latest_10 rfl ?_
    refine v_bipush dX4_latest_12 (by decide) ?_
    refine v_icmp_gt 56 dX4_latest_14 (by decide) (by omega) (by omega) (fun h14 => ?_) (fun h14 => ?_)
    · refine v_iloadn dX4_latest_56 rfl ?_
      refine v_iconst dX4_latest_57 ?_
      refine v_isub dX4_latest_58 ?_
      exact v_iret dX4_latest_59 rfl ⟨(Nat.le_of_ble_eq_true rfl), (Nat.le_of_ble_eq_true rfl)⟩ (by omega) ⟨rfl, by unfold lateP; refine ⟨by omega, by omega, fun hs => ⟨fun j hj => (h5 hs).1 j (by omega), fun j hj hj2 => (h5 hs).2 j (by omega) hj2⟩⟩⟩
    · exact absurd h14 (by omega)
  | succ k ih =>
    intro lo hi sp md hsp hsp0 h1 h2 h3 h4 h5
    refine v_iload dX4_latest_10 rfl ?_
    refine v_bipush dX4_latest_12 (by decide) ?_
    refine v_icmp_gt 56 dX4_latest_14 (by decide) (by omega) (by omega) (fun h14 => ?_) (fun h14 => ?_)
    · refine v_iloadn dX4_latest_56 rfl ?_
      refine v_iconst dX4_latest_57 ?_
      refine v_isub dX4_latest_58 ?_
      exact v_iret dX4_latest_59 rfl ⟨(Nat.le_of_ble_eq_true rfl), (Nat.le_of_ble_eq_true rfl)⟩ (by omega) ⟨rfl, by unfold lateP; refine ⟨by omega, by omega, fun hs => ⟨fun j hj => (h5 hs).1 j (by omega), fun j hj hj2 => (h5 hs).2 j (by omega) hj2⟩⟩⟩
    · refine v_iloadn dX4_latest_17 rfl ?_
      refine v_iloadn dX4_latest_18 rfl ?_
      refine v_icmp_ge 56 dX4_latest_19 (by decide) (by omega) (by omega) (fun h19 => ?_) (fun h19 => ?_)
      · refine v_iloadn dX4_latest_56 rfl ?_
        refine v_iconst dX4_latest_57 ?_
        refine v_isub dX4_latest_58 ?_
        exact v_iret dX4_latest_59 rfl ⟨(Nat.le_of_ble_eq_true rfl), (Nat.le_of_ble_eq_true rfl)⟩ (by omega) ⟨rfl, by unfold lateP; refine ⟨by omega, by omega, fun hs => ⟨fun j hj => (h5 hs).1 j (by omega), fun j hj hj2 => (h5 hs).2 j (by omega) hj2⟩⟩⟩
      · refine v_iloadn dX4_latest_22 rfl ?_
        refine v_iloadn dX4_latest_23 rfl ?_
        refine v_iadd dX4_latest_24 ?_
        refine v_iconst dX4_latest_25 ?_
        refine v_idiv2 dX4_latest_26 (by omega) (by omega) ?_
        refine v_istore dX4_latest_27 (Nat.le_of_ble_eq_true rfl) ?_
        refine v_aloadn dX4_latest_29 rfl ?_
        refine v_iload dX4_latest_30 rfl ?_
        refine v_callV (tX4_tickOf hrow (by omega)) lc_X4_26 ⟨(Nat.le_of_ble_eq_true rfl), (Nat.le_of_ble_eq_true rfl)⟩ dX4_latest_32 rfl rfl (Nat.le_of_ble_eq_true rfl) ⟨(Nat.le_of_ble_eq_true rfl), (Nat.le_of_ble_eq_true rfl)⟩ ⟨_, _, _, _, hrow.1, rfl⟩ (kP fun r32 hr32 hp32 => ?_)
        have htf : (lo + hi) / 2 < n → r32 = T ((lo + hi) / 2).toNat := fun hm => by rw [hp32]; unfold tickF; rw [if_neg (by omega), if_pos hm]
        refine v_iloadn dX4_latest_35 rfl ?_
        refine v_icmp_gt 47 dX4_latest_36 (by decide) (by omega) (by omega) (fun h36 => ?_) (fun h36 => ?_)
        · refine v_iload dX4_latest_47 rfl ?_
          refine v_istoren dX4_latest_49 (Nat.le_of_ble_eq_true rfl) ?_
          refine v_iinc dX4_latest_50 rfl (Nat.le_of_ble_eq_true rfl) ?_
          refine v_goto 10 dX4_latest_53 (by decide) ?_
          refine wV.locs (lv' := [(0, .ref r), (1, .int (gI t)), (2, .int (gI _)), (3, .int (gI _)), (4, .int (gI _))]) ⟨rfl, rfl, rfl, rfl, rfl, trivial⟩ (ih _ _ _ 0 (by omega) (by omega) (by omega) (by omega) (by omega) (by omega) (fun hs => ?_))
          obtain ⟨g1, g2⟩ := h5 hs
          have htf := htf (by omega)
          refine ⟨fun j hj => ?_, fun j hj hj2 => ?_⟩
          · first | exact g1 j (by omega) | (have := mono_le hs (m := ((lo + hi) / 2).toNat) (j := j) (by omega) (by omega); omega)
          · first | exact g2 j (by omega) hj2 | (have := mono_le hs (m := j) (j := ((lo + hi) / 2).toNat) (by omega) hj2; omega)
        · refine v_iload dX4_latest_39 rfl ?_
          refine v_iconst dX4_latest_41 ?_
          refine v_iadd dX4_latest_42 ?_
          refine v_istoren dX4_latest_43 (Nat.le_of_ble_eq_true rfl) ?_
          refine v_goto 50 dX4_latest_44 (by decide) ?_
          refine v_iinc dX4_latest_50 rfl (Nat.le_of_ble_eq_true rfl) ?_
          refine v_goto 10 dX4_latest_53 (by decide) ?_
          refine wV.locs (lv' := [(0, .ref r), (1, .int (gI t)), (2, .int (gI _)), (3, .int (gI _)), (4, .int (gI _))]) ⟨rfl, rfl, rfl, rfl, rfl, trivial⟩ (ih _ _ _ 0 (by omega) (by omega) (by omega) (by omega) (by omega) (by omega) (fun hs => ?_))
          obtain ⟨g1, g2⟩ := h5 hs
          have htf := htf (by omega)
          refine ⟨fun j hj => ?_, fun j hj hj2 => ?_⟩
          · first | exact g1 j (by omega) | (have := mono_le hs (m := ((lo + hi) / 2).toNat) (j := j) (by omega) (by omega); omega)
          · first | exact g2 j (by omega) hj2 | (have := mono_le hs (m := j) (j := ((lo + hi) / 2).toNat) (by omega) hj2; omega)
set_option maxHeartbeats 4000000 in
set_option maxRecDepth 100000 in
theorem tX4_latest {G : gG} {M : wM} {r tk vl : Nat} {n : Int} {T V : Nat → Int} (hrow : rowAt G M r tk vl n T V) {t : Int} (ht : rng t) : wT G qX4_latest 0 0 [.ref r, .int (gI t)] M (iP fun x M' => M' = M ∧ lateP n T t x) := by
  refine wT.intro (by decide) (Nat.le_of_ble_eq_true rfl) (fun sz => ?_)
  obtain ⟨hn0, hn1⟩ := hrow.rg
  refine v_iconst dX4_latest_0 ?_
  refine v_istoren dX4_latest_1 (Nat.le_of_ble_eq_true rfl) ?_
  refine v_aloadn dX4_latest_2 rfl ?_
  refine v_get dX4_latest_3 gf_X4_18 hrow.1 rfl ?_
  refine v_istoren dX4_latest_6 (Nat.le_of_ble_eq_true rfl) ?_
  refine v_iconst dX4_latest_7 ?_
  refine v_istore dX4_latest_8 (Nat.le_of_ble_eq_true rfl) ?_
  refine wV.locs (lv' := [(0, .ref r), (1, .int (gI t)), (2, .int (gI 0)), (3, .int (gI n)), (4, .int (gI 0))]) ⟨rfl, rfl, rfl, rfl, rfl, trivial⟩ (tX4_latest_loop hrow ht 51 0 n 0 0 (by omega) (by omega) (by omega) (by omega) (by omega) (by omega) (fun hs => ⟨fun j hj => by omega, fun j hj hj2 => by omega⟩))
set_option maxHeartbeats 4000000 in
set_option maxRecDepth 100000 in
theorem tX4_valueAt {G : gG} {M : wM} {r tk vl : Nat} {n : Int} {T V : Nat → Int} (hrow : rowAt G M r tk vl n T V) {t : Int} (ht : rng t) : wT G qX4_valueAt 0 0 [.ref r, .int (gI t)] M (iP fun x M' => M' = M ∧ ∃ i, lateP n T t i ∧ x = valF n V i) := by
  refine wT.intro (by decide) (Nat.le_of_ble_eq_true rfl) (fun sz => ?_)
  obtain ⟨hn0, hn1⟩ := hrow.rg
  refine v_aloadn dX4_valueAt_0 rfl ?_
  refine v_aloadn dX4_valueAt_1 rfl ?_
  refine v_iloadn dX4_valueAt_2 rfl ?_
  refine v_callV (tX4_latest hrow ht) lc_X4_22 ⟨(Nat.le_of_ble_eq_true rfl), (Nat.le_of_ble_eq_true rfl)⟩ dX4_valueAt_3 rfl rfl (Nat.le_of_ble_eq_true rfl) ⟨(Nat.le_of_ble_eq_true rfl), (Nat.le_of_ble_eq_true rfl)⟩ ⟨_, _, _, _, hrow.1, rfl⟩ (kP fun r3 hr3 hp3 => ?_)
  refine v_callV (tX4_valueOf hrow (by omega)) lc_X4_30 ⟨(Nat.le_of_ble_eq_true rfl), (Nat.le_of_ble_eq_true rfl)⟩ dX4_valueAt_6 rfl rfl (Nat.le_of_ble_eq_true rfl) ⟨(Nat.le_of_ble_eq_true rfl), (Nat.le_of_ble_eq_true rfl)⟩ ⟨_, _, _, _, hrow.1, rfl⟩ (kP fun r6 hr6 hp6 => ?_)
  exact v_iret dX4_valueAt_9 rfl ⟨(Nat.le_of_ble_eq_true rfl), (Nat.le_of_ble_eq_true rfl)⟩ (by omega) ⟨rfl, _, hp3, hp6⟩
end
section
set_option maxHeartbeats 4000000 in
set_option maxRecDepth 100000 in
theorem tX4_isEdge {G : gG} {M : wM} {r tk vl : Nat} {n : Int} {T V : Nat → Int} (hrow : rowAt G M r tk vl n T V) {i : Int} (hi : bt (-10) i 1000) : wT G qX4_isEdge 0 0 [.ref r, .int (gI i)] M (iP fun x M' => M' = M ∧ ((x = 1 ∧ 0 < tickF n T i) ∨ x = 0)) := by
  refine wT.intro (by decide) (Nat.le_of_ble_eq_true rfl) (fun sz => ?_)
  obtain ⟨hn0, hn1⟩ := hrow.rg
  refine v_aloadn dX4_isEdge_0 rfl ?_
  refine v_iloadn dX4_isEdge_1 rfl ?_
  refine v_callV (tX4_tickOf hrow (by omega)) lc_X4_26 ⟨(Nat.le_of_ble_eq_true rfl), (Nat.le_of_ble_eq_true rfl)⟩ dX4_isEdge_2 rfl rfl (Nat.le_of_ble_eq_true rfl) ⟨(Nat.le_of_ble_eq_true rfl), (Nat.le_of_ble_eq_true rfl)⟩ ⟨_, _, _, _, hrow.1, rfl⟩ (kP fun r2 hr2 hp2 => ?_)
  refine v_if_le 32 dX4_isEdge_5 (by decide) (by omega) (fun h5 => ?_) (fun h5 => ?_)
  · refine v_iconst dX4_isEdge_32 ?_
    exact v_zret dX4_isEdge_33 rfl ⟨(Nat.le_of_ble_eq_true rfl), (Nat.le_of_ble_eq_true rfl)⟩ (by omega) ⟨rfl, by omega⟩
  · refine v_aloadn dX4_isEdge_8 rfl ?_
    refine v_iloadn dX4_isEdge_9 rfl ?_
    refine v_callV (tX4_valueOf hrow (by omega)) lc_X4_30 ⟨(Nat.le_of_ble_eq_true rfl), (Nat.le_of_ble_eq_true rfl)⟩ dX4_isEdge_10 rfl rfl (Nat.le_of_ble_eq_true rfl) ⟨(Nat.le_of_ble_eq_true rfl), (Nat.le_of_ble_eq_true rfl)⟩ ⟨_, _, _, _, hrow.1, rfl⟩ (kP fun r10 hr10 hp10 => ?_)
    refine v_iconst dX4_isEdge_13 ?_
    refine v_icmp_ne 32 dX4_isEdge_14 (by decide) (by omega) (by omega) (fun h14 => ?_) (fun h14 => ?_)
    · refine v_iconst dX4_isEdge_32 ?_
      exact v_zret dX4_isEdge_33 rfl ⟨(Nat.le_of_ble_eq_true rfl), (Nat.le_of_ble_eq_true rfl)⟩ (by omega) ⟨rfl, by omega⟩
    · refine v_aloadn dX4_isEdge_17 rfl ?_
      refine v_iloadn dX4_isEdge_18 rfl ?_
      refine v_iconst dX4_isEdge_19 ?_
      refine v_isub dX4_isEdge_20 ?_
      refine v_callV (tX4_valueOf hrow (by omega)) lc_X4_30 ⟨(Nat.le_of_ble_eq_true rfl), (Nat.le_of_ble_eq_true rfl)⟩ dX4_isEdge_21 rfl rfl (Nat.le_of_ble_eq_true rfl) ⟨(Nat.le_of_ble_eq_true rfl), (Nat.le_of_ble_eq_true rfl)⟩ ⟨_, _, _, _, hrow.1, rfl⟩ (kP fun r21 hr21 hp21 => ?_)
      refine v_iconst dX4_isEdge_24 ?_
      refine v_icmp_eq 32 dX4_isEdge_25 (by decide) (by omega) (by omega) (fun h25 => ?_) (fun h25 => ?_)
      · refine v_iconst dX4_isEdge_32 ?_
        exact v_zret dX4_isEdge_33 rfl ⟨(Nat.le_of_ble_eq_true rfl), (Nat.le_of_ble_eq_true rfl)⟩ (by omega) ⟨rfl, by omega⟩
      · refine v_iconst dX4_isEdge_28 ?_
        refine v_goto 33 dX4_isEdge_29 (by decide) ?_
        exact v_zret dX4_isEdge_33 rfl ⟨(Nat.le_of_ble_eq_true rfl), (Nat.le_of_ble_eq_true rfl)⟩ (by omega) ⟨rfl, by omega⟩
set_option maxHeartbeats 4000000 in
set_option maxRecDepth 100000 in
theorem tX4_nextEdge_loop {G : gG} {M : wM} {r tk vl : Nat} {n : Int} {T V : Nat → Int} (hrow : rowAt G M r tk vl n T V) {t b : Int} (ht : rng t) (hb : rng b) {sz : Nat} : ∀ (k : Nat) (i : Int), 0 ≤ 52 - i → 52 - i < (k : Int) → (bt 0 i 51) → wV G qX4_nextEdge 0 0 sz M 0 0 8 [(0, .ref r), (1, .int (gI t)), (2, .int (gI b)), (3, .int (gI i))] [] M (iP fun x M' => M' = M ∧ (x = -4 ∨ bt 1 x 4000)) := by
  intro k
  induction k with
  | zero =>
    intros
    omega
  | succ k ih =>
    intro i hmz hml hi
    obtain ⟨hn0, hn1⟩ := hrow.rg
    refine v_iloadn dX4_nextEdge_8 rfl ?_
    refine v_aloadn dX4_nextEdge_9 rfl ?_
    refine v_get dX4_nextEdge_10 gf_X4_18 hrow.1 rfl ?_
    refine v_icmp_ge 45 dX4_nextEdge_13 (by decide) (by omega) (by omega) (fun h13 => ?_) (fun h13 => ?_)
    · refine v_bipush dX4_nextEdge_45 (by decide) ?_
      exact v_iret dX4_nextEdge_47 rfl ⟨(Nat.le_of_ble_eq_true rfl), (Nat.le_of_ble_eq_true rfl)⟩ (by omega) ⟨rfl, Or.inl rfl⟩
    · refine v_aloadn dX4_nextEdge_16 rfl ?_
      refine v_iloadn dX4_nextEdge_17 rfl ?_
      refine v_callV (tX4_tickOf hrow (by omega)) lc_X4_26 ⟨(Nat.le_of_ble_eq_true rfl), (Nat.le_of_ble_eq_true rfl)⟩ dX4_nextEdge_18 rfl rfl (Nat.le_of_ble_eq_true rfl) ⟨(Nat.le_of_ble_eq_true rfl), (Nat.le_of_ble_eq_true rfl)⟩ ⟨_, _, _, _, hrow.1, rfl⟩ (kP fun r18 hr18 hp18 => ?_)
      have htk : r18 = T i.toNat := by rw [hp18]; unfold tickF; rw [if_neg (by omega), if_pos (by omega)]
      have hbd := hrow.ok (i := i) (by omega) (by omega)
      refine v_iloadn dX4_nextEdge_21 rfl ?_
      refine v_icmp_ge 45 dX4_nextEdge_22 (by decide) (by omega) (by omega) (fun h22 => ?_) (fun h22 => ?_)
      · refine v_bipush dX4_nextEdge_45 (by decide) ?_
        exact v_iret dX4_nextEdge_47 rfl ⟨(Nat.le_of_ble_eq_true rfl), (Nat.le_of_ble_eq_true rfl)⟩ (by omega) ⟨rfl, Or.inl rfl⟩
      · refine v_aloadn dX4_nextEdge_25 rfl ?_
        refine v_iloadn dX4_nextEdge_26 rfl ?_
        refine v_callV (tX4_isEdge hrow (by omega)) lc_X4_33 ⟨(Nat.le_of_ble_eq_true rfl), (Nat.le_of_ble_eq_true rfl)⟩ dX4_nextEdge_27 rfl rfl (Nat.le_of_ble_eq_true rfl) ⟨(Nat.le_of_ble_eq_true rfl), (Nat.le_of_ble_eq_true rfl)⟩ ⟨_, _, _, _, hrow.1, rfl⟩ (kP fun r27 hr27 hp27 => ?_)
        refine v_if_eq 39 dX4_nextEdge_30 (by decide) (by omega) (fun h30 => ?_) (fun h30 => ?_)
        · refine v_iinc dX4_nextEdge_39 rfl (Nat.le_of_ble_eq_true rfl) ?_
          refine v_goto 8 dX4_nextEdge_42 (by decide) ?_
          refine wV.locs (lv' := [(0, .ref r), (1, .int (gI t)), (2, .int (gI b)), (3, .int (gI _))]) ⟨rfl, rfl, rfl, rfl, trivial⟩ (ih _ (by omega) (by omega) (by omega))
        · refine v_aloadn dX4_nextEdge_33 rfl ?_
          refine v_iloadn dX4_nextEdge_34 rfl ?_
          refine v_callV (tX4_tickOf hrow (by omega)) lc_X4_26 ⟨(Nat.le_of_ble_eq_true rfl), (Nat.le_of_ble_eq_true rfl)⟩ dX4_nextEdge_35 rfl rfl (Nat.le_of_ble_eq_true rfl) ⟨(Nat.le_of_ble_eq_true rfl), (Nat.le_of_ble_eq_true rfl)⟩ ⟨_, _, _, _, hrow.1, rfl⟩ (kP fun r35 hr35 hp35 => ?_)
          have htk : r35 = T i.toNat := by rw [hp35]; unfold tickF; rw [if_neg (by omega), if_pos (by omega)]
          have hbd := hrow.ok (i := i) (by omega) (by omega)
          have : tickF n T i = T i.toNat := by unfold tickF; rw [if_neg (by omega), if_pos (by omega)]
          exact v_iret dX4_nextEdge_38 rfl ⟨(Nat.le_of_ble_eq_true rfl), (Nat.le_of_ble_eq_true rfl)⟩ (by omega) ⟨rfl, Or.inr (by omega)⟩
set_option maxHeartbeats 4000000 in
set_option maxRecDepth 100000 in
theorem tX4_nextEdge {G : gG} {M : wM} {r tk vl : Nat} {n : Int} {T V : Nat → Int} (hrow : rowAt G M r tk vl n T V) {t b : Int} (ht : rng t) (hb : rng b) : wT G qX4_nextEdge 0 0 [.ref r, .int (gI t), .int (gI b)] M (iP fun x M' => M' = M ∧ (x = -4 ∨ bt 1 x 4000)) := by
  refine wT.intro (by decide) (Nat.le_of_ble_eq_true rfl) (fun sz => ?_)
  obtain ⟨hn0, hn1⟩ := hrow.rg
  refine v_aloadn dX4_nextEdge_0 rfl ?_
  refine v_iloadn dX4_nextEdge_1 rfl ?_
  refine v_callV (tX4_latest hrow (by omega)) lc_X4_22 ⟨(Nat.le_of_ble_eq_true rfl), (Nat.le_of_ble_eq_true rfl)⟩ dX4_nextEdge_2 rfl rfl (Nat.le_of_ble_eq_true rfl) ⟨(Nat.le_of_ble_eq_true rfl), (Nat.le_of_ble_eq_true rfl)⟩ ⟨_, _, _, _, hrow.1, rfl⟩ (kP fun r2 hr2 hp2 => ?_)
  have hq2 := hp2; unfold lateP at hq2
  refine v_iconst dX4_nextEdge_5 ?_
  refine v_iadd dX4_nextEdge_6 ?_
  refine v_istoren dX4_nextEdge_7 (Nat.le_of_ble_eq_true rfl) ?_
  refine wV.locs (lv' := [(0, .ref r), (1, .int (gI t)), (2, .int (gI b)), (3, .int (gI (r2 + 1)))]) ⟨rfl, rfl, rfl, rfl, trivial⟩ (tX4_nextEdge_loop hrow ht hb 60 _ (by omega) (by omega) (by omega))
set_option maxHeartbeats 4000000 in
set_option maxRecDepth 100000 in
theorem tX4_latestEdge_loop {G : gG} {M : wM} {r tk vl : Nat} {n : Int} {T V : Nat → Int} (hrow : rowAt G M r tk vl n T V) {t : Int} (ht : rng t) {sz : Nat} : ∀ (k : Nat) (i : Int), 0 ≤ i + 1 → i + 1 < (k : Int) → (bt (-1) i 49 ∧ i < n) → wV G qX4_latestEdge 0 0 sz M 0 0 6 [(0, .ref r), (1, .int (gI t)), (2, .int (gI i))] [] M (iP fun x M' => M' = M ∧ (x = -4 ∨ bt 1 x 4000)) := by
  intro k
  induction k with
  | zero =>
    intros
    omega
  | succ k ih =>
    intro i hmz hml hi
    obtain ⟨hn0, hn1⟩ := hrow.rg
    refine v_iloadn dX4_latestEdge_6 rfl ?_
    refine v_if_lt 30 dX4_latestEdge_7 (by decide) (by omega) (fun h7 => ?_) (fun h7 => ?_)
    · refine v_bipush dX4_latestEdge_30 (by decide) ?_
      exact v_iret dX4_latestEdge_32 rfl ⟨(Nat.le_of_ble_eq_true rfl), (Nat.le_of_ble_eq_true rfl)⟩ (by omega) ⟨rfl, Or.inl rfl⟩
    · refine v_aloadn dX4_latestEdge_10 rfl ?_
      refine v_iloadn dX4_latestEdge_11 rfl ?_
      refine v_callV (tX4_isEdge hrow (by omega)) lc_X4_33 ⟨(Nat.le_of_ble_eq_true rfl), (Nat.le_of_ble_eq_true rfl)⟩ dX4_latestEdge_12 rfl rfl (Nat.le_of_ble_eq_true rfl) ⟨(Nat.le_of_ble_eq_true rfl), (Nat.le_of_ble_eq_true rfl)⟩ ⟨_, _, _, _, hrow.1, rfl⟩ (kP fun r12 hr12 hp12 => ?_)
      refine v_if_eq 24 dX4_latestEdge_15 (by decide) (by omega) (fun h15 => ?_) (fun h15 => ?_)
      · refine v_iinc dX4_latestEdge_24 rfl (Nat.le_of_ble_eq_true rfl) ?_
        refine v_goto 6 dX4_latestEdge_27 (by decide) ?_
        refine wV.locs (lv' := [(0, .ref r), (1, .int (gI t)), (2, .int (gI _))]) ⟨rfl, rfl, rfl, trivial⟩ (ih _ (by omega) (by omega) (by omega))
      · refine v_aloadn dX4_latestEdge_18 rfl ?_
        refine v_iloadn dX4_latestEdge_19 rfl ?_
        refine v_callV (tX4_tickOf hrow (by omega)) lc_X4_26 ⟨(Nat.le_of_ble_eq_true rfl), (Nat.le_of_ble_eq_true rfl)⟩ dX4_latestEdge_20 rfl rfl (Nat.le_of_ble_eq_true rfl) ⟨(Nat.le_of_ble_eq_true rfl), (Nat.le_of_ble_eq_true rfl)⟩ ⟨_, _, _, _, hrow.1, rfl⟩ (kP fun r20 hr20 hp20 => ?_)
        have htk : r20 = T i.toNat := by rw [hp20]; unfold tickF; rw [if_neg (by omega), if_pos (by omega)]
        have hbd := hrow.ok (i := i) (by omega) (by omega)
        have : tickF n T i = T i.toNat := by unfold tickF; rw [if_neg (by omega), if_pos (by omega)]
        exact v_iret dX4_latestEdge_23 rfl ⟨(Nat.le_of_ble_eq_true rfl), (Nat.le_of_ble_eq_true rfl)⟩ (by omega) ⟨rfl, Or.inr (by omega)⟩
set_option maxHeartbeats 4000000 in
set_option maxRecDepth 100000 in
theorem tX4_latestEdge {G : gG} {M : wM} {r tk vl : Nat} {n : Int} {T V : Nat → Int} (hrow : rowAt G M r tk vl n T V) {t : Int} (ht : rng t) : wT G qX4_latestEdge 0 0 [.ref r, .int (gI t)] M (iP fun x M' => M' = M ∧ (x = -4 ∨ bt 1 x 4000)) := by
  refine wT.intro (by decide) (Nat.le_of_ble_eq_true rfl) (fun sz => ?_)
  obtain ⟨hn0, hn1⟩ := hrow.rg
  refine v_aloadn dX4_latestEdge_0 rfl ?_
  refine v_iloadn dX4_latestEdge_1 rfl ?_
  refine v_callV (tX4_latest hrow (by omega)) lc_X4_22 ⟨(Nat.le_of_ble_eq_true rfl), (Nat.le_of_ble_eq_true rfl)⟩ dX4_latestEdge_2 rfl rfl (Nat.le_of_ble_eq_true rfl) ⟨(Nat.le_of_ble_eq_true rfl), (Nat.le_of_ble_eq_true rfl)⟩ ⟨_, _, _, _, hrow.1, rfl⟩ (kP fun r2 hr2 hp2 => ?_)
  have hq2 := hp2; unfold lateP at hq2
  refine v_istoren dX4_latestEdge_5 (Nat.le_of_ble_eq_true rfl) ?_
  refine wV.locs (lv' := [(0, .ref r), (1, .int (gI t)), (2, .int (gI (r2)))]) ⟨rfl, rfl, rfl, trivial⟩ (tX4_latestEdge_loop hrow ht 60 _ (by omega) (by omega) (by omega))
set_option maxHeartbeats 4000000 in
set_option maxRecDepth 100000 in
theorem tX4_turns_loop {G : gG} {M : wM} {r tk vl : Nat} {n : Int} {T V : Nat → Int} (hrow : rowAt G M r tk vl n T V) {a b : Int} (ha : bt 0 a 4000) (hb : bt 0 b 4000) {sz : Nat} : ∀ (k : Nat) (u i : Int), 0 ≤ 52 - i → 52 - i < (k : Int) → (bt 0 i 51) → wV G qX4_turns 0 0 sz M 0 0 13 [(0, .ref r), (1, .int (gI a)), (2, .int (gI b)), (3, .int (gI u)), (4, .int (gI i))] [] M (iP fun x M' => M' = M ∧ True) := by
  intro k
  induction k with
  | zero =>
    intros
    omega
  | succ k ih =>
    intro u i hmz hml hi
    obtain ⟨hn0, hn1⟩ := hrow.rg
    refine v_iload dX4_turns_13 rfl ?_
    refine v_aloadn dX4_turns_15 rfl ?_
    refine v_get dX4_turns_16 gf_X4_18 hrow.1 rfl ?_
    refine v_icmp_ge 63 dX4_turns_19 (by decide) (by omega) (by omega) (fun h19 => ?_) (fun h19 => ?_)
    · refine v_iloadn dX4_turns_63 rfl ?_
      exact v_iretA dX4_turns_64 rfl ⟨(Nat.le_of_ble_eq_true rfl), (Nat.le_of_ble_eq_true rfl)⟩ ⟨rfl, trivial⟩
    · refine v_aloadn dX4_turns_22 rfl ?_
      refine v_iload dX4_turns_23 rfl ?_
      refine v_callV (tX4_tickOf hrow (by omega)) lc_X4_26 ⟨(Nat.le_of_ble_eq_true rfl), (Nat.le_of_ble_eq_true rfl)⟩ dX4_turns_25 rfl rfl (Nat.le_of_ble_eq_true rfl) ⟨(Nat.le_of_ble_eq_true rfl), (Nat.le_of_ble_eq_true rfl)⟩ ⟨_, _, _, _, hrow.1, rfl⟩ (kP fun r25 hr25 hp25 => ?_)
      refine v_iloadn dX4_turns_28 rfl ?_
      refine v_icmp_ge 63 dX4_turns_29 (by decide) (by omega) (by omega) (fun h29 => ?_) (fun h29 => ?_)
      · refine v_iloadn dX4_turns_63 rfl ?_
        exact v_iretA dX4_turns_64 rfl ⟨(Nat.le_of_ble_eq_true rfl), (Nat.le_of_ble_eq_true rfl)⟩ ⟨rfl, trivial⟩
      · refine v_iloadn dX4_turns_32 rfl ?_
        refine v_aloadn dX4_turns_33 rfl ?_
        refine v_iload dX4_turns_34 rfl ?_
        refine v_callV (tX4_valueOf hrow (by omega)) lc_X4_30 ⟨(Nat.le_of_ble_eq_true rfl), (Nat.le_of_ble_eq_true rfl)⟩ dX4_turns_36 rfl rfl (Nat.le_of_ble_eq_true rfl) ⟨(Nat.le_of_ble_eq_true rfl), (Nat.le_of_ble_eq_true rfl)⟩ ⟨_, _, _, _, hrow.1, rfl⟩ (kP fun r36 hr36 hp36 => ?_)
        refine v_aloadn dX4_turns_39 rfl ?_
        refine v_iload dX4_turns_40 rfl ?_
        refine v_iconst dX4_turns_42 ?_
        refine v_isub dX4_turns_43 ?_
        refine v_callV (tX4_valueOf hrow (by omega)) lc_X4_30 ⟨(Nat.le_of_ble_eq_true rfl), (Nat.le_of_ble_eq_true rfl)⟩ dX4_turns_44 rfl rfl (Nat.le_of_ble_eq_true rfl) ⟨(Nat.le_of_ble_eq_true rfl), (Nat.le_of_ble_eq_true rfl)⟩ ⟨_, _, _, _, hrow.1, rfl⟩ (kP fun r44 hr44 hp44 => ?_)
        refine v_icmp_eq 54 dX4_turns_47 (by decide) (by omega) (by omega) (fun h47 => ?_) (fun h47 => ?_)
        · refine v_iconst dX4_turns_54 ?_
          refine v_iadd dX4_turns_55 ?_
          refine v_istoren dX4_turns_56 (Nat.le_of_ble_eq_true rfl) ?_
          refine v_iinc dX4_turns_57 rfl (Nat.le_of_ble_eq_true rfl) ?_
          refine v_goto 13 dX4_turns_60 (by decide) ?_
          refine wV.locs (lv' := [(0, .ref r), (1, .int (gI a)), (2, .int (gI b)), (3, .int (gI _)), (4, .int (gI _))]) ⟨rfl, rfl, rfl, rfl, rfl, trivial⟩ (ih _ _ (by omega) (by omega) (by omega))
        · refine v_iconst dX4_turns_50 ?_
          refine v_goto 55 dX4_turns_51 (by decide) ?_
          refine v_iadd dX4_turns_55 ?_
          refine v_istoren dX4_turns_56 (Nat.le_of_ble_eq_true rfl) ?_
          refine v_iinc dX4_turns_57 rfl (Nat.le_of_ble_eq_true rfl) ?_
          refine v_goto 13 dX4_turns_60 (by decide) ?_
          refine wV.locs (lv' := [(0, .ref r), (1, .int (gI a)), (2, .int (gI b)), (3, .int (gI _)), (4, .int (gI _))]) ⟨rfl, rfl, rfl, rfl, rfl, trivial⟩ (ih _ _ (by omega) (by omega) (by omega))
set_option maxHeartbeats 4000000 in
set_option maxRecDepth 100000 in
theorem tX4_turns {G : gG} {M : wM} {r tk vl : Nat} {n : Int} {T V : Nat → Int} (hrow : rowAt G M r tk vl n T V) {a b : Int} (ha : bt 0 a 4000) (hb : bt 0 b 4000) : wT G qX4_turns 0 0 [.ref r, .int (gI a), .int (gI b)] M (iP fun x M' => M' = M ∧ True) := by
  refine wT.intro (by decide) (Nat.le_of_ble_eq_true rfl) (fun sz => ?_)
  obtain ⟨hn0, hn1⟩ := hrow.rg
  refine v_iconst dX4_turns_0 ?_
  refine v_istoren dX4_turns_1 (Nat.le_of_ble_eq_true rfl) ?_
  refine v_aloadn dX4_turns_2 rfl ?_
  refine v_iloadn dX4_turns_3 rfl ?_
  refine v_iconst dX4_turns_4 ?_
  refine v_isub dX4_turns_5 ?_
  refine v_callV (tX4_latest hrow (by omega)) lc_X4_22 ⟨(Nat.le_of_ble_eq_true rfl), (Nat.le_of_ble_eq_true rfl)⟩ dX4_turns_6 rfl rfl (Nat.le_of_ble_eq_true rfl) ⟨(Nat.le_of_ble_eq_true rfl), (Nat.le_of_ble_eq_true rfl)⟩ ⟨_, _, _, _, hrow.1, rfl⟩ (kP fun r6 hr6 hp6 => ?_)
  have hq6 := hp6; unfold lateP at hq6
  refine v_iconst dX4_turns_9 ?_
  refine v_iadd dX4_turns_10 ?_
  refine v_istore dX4_turns_11 (Nat.le_of_ble_eq_true rfl) ?_
  refine wV.locs (lv' := [(0, .ref r), (1, .int (gI a)), (2, .int (gI b)), (3, .int (gI (0))), (4, .int (gI (r6 + 1)))]) ⟨rfl, rfl, rfl, rfl, rfl, trivial⟩ (tX4_turns_loop hrow ha hb 60 _ _ (by omega) (by omega) (by omega))
set_option maxHeartbeats 4000000 in
set_option maxRecDepth 100000 in
theorem tX4_ticksWithin {G : gG} {M : wM} {r tk vl : Nat} {n : Int} {T V : Nat → Int} (hrow : rowAt G M r tk vl n T V) {i a b : Int} (hi : bt (-10) i 100) (ha : bt 0 a 4000) (hb : bt 0 b 4000) : wT G qX4_ticksWithin 0 0 [.ref r, .int (gI i), .int (gI a), .int (gI b)] M (iP fun x M' => M' = M ∧ True) := by
  refine wT.intro (by decide) (Nat.le_of_ble_eq_true rfl) (fun sz => ?_)
  obtain ⟨hn0, hn1⟩ := hrow.rg
  refine v_iloadn dX4_ticksWithin_0 rfl ?_
  refine v_aloadn dX4_ticksWithin_1 rfl ?_
  refine v_iloadn dX4_ticksWithin_2 rfl ?_
  refine v_iconst dX4_ticksWithin_3 ?_
  refine v_iadd dX4_ticksWithin_4 ?_
  refine v_callV (tX4_tickOf hrow (by omega)) lc_X4_26 ⟨(Nat.le_of_ble_eq_true rfl), (Nat.le_of_ble_eq_true rfl)⟩ dX4_ticksWithin_5 rfl rfl (Nat.le_of_ble_eq_true rfl) ⟨(Nat.le_of_ble_eq_true rfl), (Nat.le_of_ble_eq_true rfl)⟩ ⟨_, _, _, _, hrow.1, rfl⟩ (kP fun r5 hr5 hp5 => ?_)
  refine v_min dX4_ticksWithin_8 lc_X4_41 (Nat.le_of_ble_eq_true rfl) (Nat.le_of_ble_eq_true rfl) ⟨(Nat.le_of_ble_eq_true rfl), (Nat.le_of_ble_eq_true rfl)⟩ (by omega) (by omega) ?_
  refine v_iloadn dX4_ticksWithin_11 rfl ?_
  refine v_aloadn dX4_ticksWithin_12 rfl ?_
  refine v_iloadn dX4_ticksWithin_13 rfl ?_
  refine v_callV (tX4_tickOf hrow (by omega)) lc_X4_26 ⟨(Nat.le_of_ble_eq_true rfl), (Nat.le_of_ble_eq_true rfl)⟩ dX4_ticksWithin_14 rfl rfl (Nat.le_of_ble_eq_true rfl) ⟨(Nat.le_of_ble_eq_true rfl), (Nat.le_of_ble_eq_true rfl)⟩ ⟨_, _, _, _, hrow.1, rfl⟩ (kP fun r14 hr14 hp14 => ?_)
  refine v_max dX4_ticksWithin_17 lc_X4_47 (Nat.le_of_ble_eq_true rfl) (Nat.le_of_ble_eq_true rfl) ⟨(Nat.le_of_ble_eq_true rfl), (Nat.le_of_ble_eq_true rfl)⟩ (by omega) (by omega) ?_
  refine v_isub dX4_ticksWithin_20 ?_
  exact v_iretA dX4_ticksWithin_21 rfl ⟨(Nat.le_of_ble_eq_true rfl), (Nat.le_of_ble_eq_true rfl)⟩ ⟨rfl, trivial⟩
set_option maxHeartbeats 4000000 in
set_option maxRecDepth 100000 in
theorem tX4_ticksNotKnown_loop {G : gG} {M : wM} {r tk vl : Nat} {n : Int} {T V : Nat → Int} (hrow : rowAt G M r tk vl n T V) {a b : Int} (ha : bt 0 a 4000) (hb : bt 0 b 4000) {sz : Nat} : ∀ (k : Nat) (u i : Int), 0 ≤ 52 - i → 52 - i < (k : Int) → (bt (-1) i 51) → wV G qX4_ticksNotKnown 0 0 sz M 0 0 9 [(0, .ref r), (1, .int (gI a)), (2, .int (gI b)), (3, .int (gI u)), (4, .int (gI i))] [] M (iP fun x M' => M' = M ∧ True) := by
  intro k
  induction k with
  | zero =>
    intros
    omega
  | succ k ih =>
    intro u i hmz hml hi
    obtain ⟨hn0, hn1⟩ := hrow.rg
    refine v_iload dX4_ticksNotKnown_9 rfl ?_
    refine v_aloadn dX4_ticksNotKnown_11 rfl ?_
    refine v_get dX4_ticksNotKnown_12 gf_X4_18 hrow.1 rfl ?_
    refine v_icmp_ge 61 dX4_ticksNotKnown_15 (by decide) (by omega) (by omega) (fun h15 => ?_) (fun h15 => ?_)
    · refine v_iloadn dX4_ticksNotKnown_61 rfl ?_
      exact v_iretA dX4_ticksNotKnown_62 rfl ⟨(Nat.le_of_ble_eq_true rfl), (Nat.le_of_ble_eq_true rfl)⟩ ⟨rfl, trivial⟩
    · refine v_aloadn dX4_ticksNotKnown_18 rfl ?_
      refine v_iload dX4_ticksNotKnown_19 rfl ?_
      refine v_callV (tX4_tickOf hrow (by omega)) lc_X4_26 ⟨(Nat.le_of_ble_eq_true rfl), (Nat.le_of_ble_eq_true rfl)⟩ dX4_ticksNotKnown_21 rfl rfl (Nat.le_of_ble_eq_true rfl) ⟨(Nat.le_of_ble_eq_true rfl), (Nat.le_of_ble_eq_true rfl)⟩ ⟨_, _, _, _, hrow.1, rfl⟩ (kP fun r21 hr21 hp21 => ?_)
      refine v_iloadn dX4_ticksNotKnown_24 rfl ?_
      refine v_icmp_ge 61 dX4_ticksNotKnown_25 (by decide) (by omega) (by omega) (fun h25 => ?_) (fun h25 => ?_)
      · refine v_iloadn dX4_ticksNotKnown_61 rfl ?_
        exact v_iretA dX4_ticksNotKnown_62 rfl ⟨(Nat.le_of_ble_eq_true rfl), (Nat.le_of_ble_eq_true rfl)⟩ ⟨rfl, trivial⟩
      · refine v_iloadn dX4_ticksNotKnown_28 rfl ?_
        refine v_aloadn dX4_ticksNotKnown_29 rfl ?_
        refine v_iload dX4_ticksNotKnown_30 rfl ?_
        refine v_callV (tX4_valueOf hrow (by omega)) lc_X4_30 ⟨(Nat.le_of_ble_eq_true rfl), (Nat.le_of_ble_eq_true rfl)⟩ dX4_ticksNotKnown_32 rfl rfl (Nat.le_of_ble_eq_true rfl) ⟨(Nat.le_of_ble_eq_true rfl), (Nat.le_of_ble_eq_true rfl)⟩ ⟨_, _, _, _, hrow.1, rfl⟩ (kP fun r32 hr32 hp32 => ?_)
        refine v_sipush dX4_ticksNotKnown_35 (by decide) ?_
        refine v_icmp_ne 52 dX4_ticksNotKnown_38 (by decide) (by omega) (by omega) (fun h38 => ?_) (fun h38 => ?_)
        · refine v_iconst dX4_ticksNotKnown_52 ?_
          refine v_iadd dX4_ticksNotKnown_53 ?_
          refine v_istoren dX4_ticksNotKnown_54 (Nat.le_of_ble_eq_true rfl) ?_
          refine v_iinc dX4_ticksNotKnown_55 rfl (Nat.le_of_ble_eq_true rfl) ?_
          refine v_goto 9 dX4_ticksNotKnown_58 (by decide) ?_
          refine wV.locs (lv' := [(0, .ref r), (1, .int (gI a)), (2, .int (gI b)), (3, .int (gI _)), (4, .int (gI _))]) ⟨rfl, rfl, rfl, rfl, rfl, trivial⟩ (ih _ _ (by omega) (by omega) (by omega))
        · refine v_aloadn dX4_ticksNotKnown_41 rfl ?_
          refine v_iload dX4_ticksNotKnown_42 rfl ?_
          refine v_iloadn dX4_ticksNotKnown_44 rfl ?_
          refine v_iloadn dX4_ticksNotKnown_45 rfl ?_
          refine v_callV (tX4_ticksWithin hrow (by omega) (by omega) (by omega)) lc_X4_37 ⟨(Nat.le_of_ble_eq_true rfl), (Nat.le_of_ble_eq_true rfl)⟩ dX4_ticksNotKnown_46 rfl rfl (Nat.le_of_ble_eq_true rfl) ⟨(Nat.le_of_ble_eq_true rfl), (Nat.le_of_ble_eq_true rfl)⟩ ⟨_, _, _, _, hrow.1, rfl⟩ (kP fun r46 hr46 hp46 => ?_)
          refine v_goto 53 dX4_ticksNotKnown_49 (by decide) ?_
          refine v_iadd dX4_ticksNotKnown_53 ?_
          refine v_istoren dX4_ticksNotKnown_54 (Nat.le_of_ble_eq_true rfl) ?_
          refine v_iinc dX4_ticksNotKnown_55 rfl (Nat.le_of_ble_eq_true rfl) ?_
          refine v_goto 9 dX4_ticksNotKnown_58 (by decide) ?_
          refine wV.locs (lv' := [(0, .ref r), (1, .int (gI a)), (2, .int (gI b)), (3, .int (gI _)), (4, .int (gI _))]) ⟨rfl, rfl, rfl, rfl, rfl, trivial⟩ (ih _ _ (by omega) (by omega) (by omega))
set_option maxHeartbeats 4000000 in
set_option maxRecDepth 100000 in
theorem tX4_ticksNotKnown {G : gG} {M : wM} {r tk vl : Nat} {n : Int} {T V : Nat → Int} (hrow : rowAt G M r tk vl n T V) {a b : Int} (ha : bt 0 a 4000) (hb : bt 0 b 4000) : wT G qX4_ticksNotKnown 0 0 [.ref r, .int (gI a), .int (gI b)] M (iP fun x M' => M' = M ∧ True) := by
  refine wT.intro (by decide) (Nat.le_of_ble_eq_true rfl) (fun sz => ?_)
  obtain ⟨hn0, hn1⟩ := hrow.rg
  refine v_iconst dX4_ticksNotKnown_0 ?_
  refine v_istoren dX4_ticksNotKnown_1 (Nat.le_of_ble_eq_true rfl) ?_
  refine v_aloadn dX4_ticksNotKnown_2 rfl ?_
  refine v_iloadn dX4_ticksNotKnown_3 rfl ?_
  refine v_callV (tX4_latest hrow (by omega)) lc_X4_22 ⟨(Nat.le_of_ble_eq_true rfl), (Nat.le_of_ble_eq_true rfl)⟩ dX4_ticksNotKnown_4 rfl rfl (Nat.le_of_ble_eq_true rfl) ⟨(Nat.le_of_ble_eq_true rfl), (Nat.le_of_ble_eq_true rfl)⟩ ⟨_, _, _, _, hrow.1, rfl⟩ (kP fun r4 hr4 hp4 => ?_)
  have hq4 := hp4; unfold lateP at hq4
  refine v_istore dX4_ticksNotKnown_7 (Nat.le_of_ble_eq_true rfl) ?_
  refine wV.locs (lv' := [(0, .ref r), (1, .int (gI a)), (2, .int (gI b)), (3, .int (gI (0))), (4, .int (gI (r4)))]) ⟨rfl, rfl, rfl, rfl, rfl, trivial⟩ (tX4_ticksNotKnown_loop hrow ha hb 60 _ _ (by omega) (by omega) (by omega))
set_option maxHeartbeats 4000000 in
set_option maxRecDepth 100000 in
theorem tX4_sumKnown_loop {G : gG} {M : wM} {r tk vl : Nat} {n : Int} {T V : Nat → Int} (hrow : rowAt G M r tk vl n T V) {a b : Int} (ha : bt 0 a 4000) (hb : bt 0 b 4000) {sz : Nat} : ∀ (k : Nat) (u i : Int), 0 ≤ 52 - i → 52 - i < (k : Int) → (bt (-1) i 51) → wV G qX4_sumKnown 0 0 sz M 0 0 9 [(0, .ref r), (1, .int (gI a)), (2, .int (gI b)), (3, .int (gI u)), (4, .int (gI i))] [] M (iP fun x M' => M' = M ∧ True) := by
  intro k
  induction k with
  | zero =>
    intros
    omega
  | succ k ih =>
    intro u i hmz hml hi
    obtain ⟨hn0, hn1⟩ := hrow.rg
    refine v_iload dX4_sumKnown_9 rfl ?_
    refine v_aloadn dX4_sumKnown_11 rfl ?_
    refine v_get dX4_sumKnown_12 gf_X4_18 hrow.1 rfl ?_
    refine v_icmp_ge 68 dX4_sumKnown_15 (by decide) (by omega) (by omega) (fun h15 => ?_) (fun h15 => ?_)
    · refine v_iloadn dX4_sumKnown_68 rfl ?_
      exact v_iretA dX4_sumKnown_69 rfl ⟨(Nat.le_of_ble_eq_true rfl), (Nat.le_of_ble_eq_true rfl)⟩ ⟨rfl, trivial⟩
    · refine v_aloadn dX4_sumKnown_18 rfl ?_
      refine v_iload dX4_sumKnown_19 rfl ?_
      refine v_callV (tX4_tickOf hrow (by omega)) lc_X4_26 ⟨(Nat.le_of_ble_eq_true rfl), (Nat.le_of_ble_eq_true rfl)⟩ dX4_sumKnown_21 rfl rfl (Nat.le_of_ble_eq_true rfl) ⟨(Nat.le_of_ble_eq_true rfl), (Nat.le_of_ble_eq_true rfl)⟩ ⟨_, _, _, _, hrow.1, rfl⟩ (kP fun r21 hr21 hp21 => ?_)
      refine v_iloadn dX4_sumKnown_24 rfl ?_
      refine v_icmp_ge 68 dX4_sumKnown_25 (by decide) (by omega) (by omega) (fun h25 => ?_) (fun h25 => ?_)
      · refine v_iloadn dX4_sumKnown_68 rfl ?_
        exact v_iretA dX4_sumKnown_69 rfl ⟨(Nat.le_of_ble_eq_true rfl), (Nat.le_of_ble_eq_true rfl)⟩ ⟨rfl, trivial⟩
      · refine v_iloadn dX4_sumKnown_28 rfl ?_
        refine v_aloadn dX4_sumKnown_29 rfl ?_
        refine v_iload dX4_sumKnown_30 rfl ?_
        refine v_callV (tX4_valueOf hrow (by omega)) lc_X4_30 ⟨(Nat.le_of_ble_eq_true rfl), (Nat.le_of_ble_eq_true rfl)⟩ dX4_sumKnown_32 rfl rfl (Nat.le_of_ble_eq_true rfl) ⟨(Nat.le_of_ble_eq_true rfl), (Nat.le_of_ble_eq_true rfl)⟩ ⟨_, _, _, _, hrow.1, rfl⟩ (kP fun r32 hr32 hp32 => ?_)
        refine v_sipush dX4_sumKnown_35 (by decide) ?_
        refine v_icmp_eq 59 dX4_sumKnown_38 (by decide) (by omega) (by omega) (fun h38 => ?_) (fun h38 => ?_)
        · refine v_iconst dX4_sumKnown_59 ?_
          refine v_iadd dX4_sumKnown_60 ?_
          refine v_istoren dX4_sumKnown_61 (Nat.le_of_ble_eq_true rfl) ?_
          refine v_iinc dX4_sumKnown_62 rfl (Nat.le_of_ble_eq_true rfl) ?_
          refine v_goto 9 dX4_sumKnown_65 (by decide) ?_
          refine wV.locs (lv' := [(0, .ref r), (1, .int (gI a)), (2, .int (gI b)), (3, .int (gI _)), (4, .int (gI _))]) ⟨rfl, rfl, rfl, rfl, rfl, trivial⟩ (ih _ _ (by omega) (by omega) (by omega))
        · refine v_aloadn dX4_sumKnown_41 rfl ?_
          refine v_iload dX4_sumKnown_42 rfl ?_
          refine v_callV (tX4_valueOf hrow (by omega)) lc_X4_30 ⟨(Nat.le_of_ble_eq_true rfl), (Nat.le_of_ble_eq_true rfl)⟩ dX4_sumKnown_44 rfl rfl (Nat.le_of_ble_eq_true rfl) ⟨(Nat.le_of_ble_eq_true rfl), (Nat.le_of_ble_eq_true rfl)⟩ ⟨_, _, _, _, hrow.1, rfl⟩ (kP fun r44 hr44 hp44 => ?_)
          refine v_aloadn dX4_sumKnown_47 rfl ?_
          refine v_iload dX4_sumKnown_48 rfl ?_
          refine v_iloadn dX4_sumKnown_50 rfl ?_
          refine v_iloadn dX4_sumKnown_51 rfl ?_
          refine v_callV (tX4_ticksWithin hrow (by omega) (by omega) (by omega)) lc_X4_37 ⟨(Nat.le_of_ble_eq_true rfl), (Nat.le_of_ble_eq_true rfl)⟩ dX4_sumKnown_52 rfl rfl (Nat.le_of_ble_eq_true rfl) ⟨(Nat.le_of_ble_eq_true rfl), (Nat.le_of_ble_eq_true rfl)⟩ ⟨_, _, _, _, hrow.1, rfl⟩ (kP fun r52 hr52 hp52 => ?_)
          refine v_imul dX4_sumKnown_55 ?_
          refine v_goto 60 dX4_sumKnown_56 (by decide) ?_
          refine v_iadd dX4_sumKnown_60 ?_
          refine v_istoren dX4_sumKnown_61 (Nat.le_of_ble_eq_true rfl) ?_
          refine v_iinc dX4_sumKnown_62 rfl (Nat.le_of_ble_eq_true rfl) ?_
          refine v_goto 9 dX4_sumKnown_65 (by decide) ?_
          refine wV.locs (lv' := [(0, .ref r), (1, .int (gI a)), (2, .int (gI b)), (3, .int (gI _)), (4, .int (gI _))]) ⟨rfl, rfl, rfl, rfl, rfl, trivial⟩ (ih _ _ (by omega) (by omega) (by omega))
set_option maxHeartbeats 4000000 in
set_option maxRecDepth 100000 in
theorem tX4_sumKnown {G : gG} {M : wM} {r tk vl : Nat} {n : Int} {T V : Nat → Int} (hrow : rowAt G M r tk vl n T V) {a b : Int} (ha : bt 0 a 4000) (hb : bt 0 b 4000) : wT G qX4_sumKnown 0 0 [.ref r, .int (gI a), .int (gI b)] M (iP fun x M' => M' = M ∧ True) := by
  refine wT.intro (by decide) (Nat.le_of_ble_eq_true rfl) (fun sz => ?_)
  obtain ⟨hn0, hn1⟩ := hrow.rg
  refine v_iconst dX4_sumKnown_0 ?_
  refine v_istoren dX4_sumKnown_1 (Nat.le_of_ble_eq_true rfl) ?_
  refine v_aloadn dX4_sumKnown_2 rfl ?_
  refine v_iloadn dX4_sumKnown_3 rfl ?_
  refine v_callV (tX4_latest hrow (by omega)) lc_X4_22 ⟨(Nat.le_of_ble_eq_true rfl), (Nat.le_of_ble_eq_true rfl)⟩ dX4_sumKnown_4 rfl rfl (Nat.le_of_ble_eq_true rfl) ⟨(Nat.le_of_ble_eq_true rfl), (Nat.le_of_ble_eq_true rfl)⟩ ⟨_, _, _, _, hrow.1, rfl⟩ (kP fun r4 hr4 hp4 => ?_)
  have hq4 := hp4; unfold lateP at hq4
  refine v_istore dX4_sumKnown_7 (Nat.le_of_ble_eq_true rfl) ?_
  refine wV.locs (lv' := [(0, .ref r), (1, .int (gI a)), (2, .int (gI b)), (3, .int (gI (0))), (4, .int (gI (r4)))]) ⟨rfl, rfl, rfl, rfl, rfl, trivial⟩ (tX4_sumKnown_loop hrow ha hb 60 _ _ (by omega) (by omega) (by omega))
end
section
set_option maxHeartbeats 4000000 in
set_option maxRecDepth 100000 in
theorem tX4_put {G : gG} {fw : Nat → Nat → Nat} {s : sG} {M : wM} (hX : wX G fw s M) {i : Nat} (hi : i < 45) {t v : Int} (ht : bt 0 t 4000) (hv : bt 0 v 256) : wT G qX4_put 0 0 [.ref (fw 10 i), .int (gI t), .int (gI v)] M (vP fun M' => ∃ s', wX G fw s' M' ∧ wO cntX fw M M' ∧ ((s 10 i 2 < 50 ∧ s' = ups (ups (ups s 11 i (s 10 i 2).toNat t) 12 i (s 10 i 2).toNat v) 10 i 2 (s 10 i 2 + 1)) ∨ (s 10 i 2 = 50 ∧ s' = s))) := by
  refine wT.intro (by decide) (Nat.le_of_ble_eq_true rfl) (fun sz => ?_)
  obtain ⟨hJ, hH, hI⟩ := id hX
  have hO : wO cntX fw M M := wO.rf
  have hok := hI.2.2.2.2.1 i hi
  have hn0 := hok.1
  have hn1 := hok.2.1
  refine v_aloadn dX4_put_0 rfl ?_
  refine v_get dX4_put_1 gf_X4_18 (hH 10 i hi) rfl ?_
  refine v_bipush dX4_put_4 (by decide) ?_
  refine v_icmp_ge 39 dX4_put_6 (by decide) (by omega) (by omega) (fun h6 => ?_) (fun h6 => ?_)
  · exact v_vret dX4_put_39 rfl ⟨(Nat.le_of_ble_eq_true rfl), (Nat.le_of_ble_eq_true rfl)⟩ ⟨s, hX, wO.rf, Or.inr ⟨by omega, rfl⟩⟩
  · refine v_aloadn dX4_put_9 rfl ?_
    refine v_get dX4_put_10 gf_X4_9 (hH 10 i hi) rfl ?_
    refine v_aloadn dX4_put_13 rfl ?_
    refine v_get dX4_put_14 gf_X4_18 (hH 10 i hi) rfl ?_
    refine v_iloadn dX4_put_17 rfl ?_
    refine v_iast dX4_put_18 (hH 11 i hi) (by omega) (by omega) (by decide) ?_
    generalize hMe18 : wup _ _ _ = M18
    have hO : wO cntX fw M M18 := by rw [← hMe18]; exact hO.up (k := 11) (i := i) hi
    obtain ⟨s18, hs18⟩ : ∃ z, z = ups s 11 i ((s 10 i 2).toNat) (t) := ⟨_, rfl⟩
    have hH : wH cntX (cellX G fw) fw s18 M18 := by rw [← hMe18, hs18]; exact wH.up hJ hH (k := 11) (i := i) ((s 10 i 2).toNat) (t) hi rfl
    have e18 : s18 10 i 2 = s 10 i 2 := by rw [hs18, ups_kf _ (by decide)]
    refine v_aloadn dX4_put_19 rfl ?_
    refine v_get dX4_put_20 gf_X4_15 (hH 10 i hi) rfl ?_
    refine v_aloadn dX4_put_23 rfl ?_
    refine v_get dX4_put_24 gf_X4_18 (hH 10 i hi) rfl ?_
    refine v_iloadn dX4_put_27 rfl ?_
    refine v_iast dX4_put_28 (hH 12 i hi) (by omega) (by omega) (by decide) ?_
    generalize hMe28 : wup _ _ _ = M28
    have hO : wO cntX fw M M28 := by rw [← hMe28]; exact hO.up (k := 12) (i := i) hi
    obtain ⟨s28, hs28⟩ : ∃ z, z = ups s18 12 i ((s18 10 i 2).toNat) (v) := ⟨_, rfl⟩
    have hH : wH cntX (cellX G fw) fw s28 M28 := by rw [← hMe28, hs28]; exact wH.up hJ hH (k := 12) (i := i) ((s18 10 i 2).toNat) (v) hi rfl
    have e28 : s28 10 i 2 = s 10 i 2 := by rw [hs28, ups_kf _ (by decide), e18]
    refine v_aloadn dX4_put_29 rfl ?_
    refine v_dup dX4_put_30 rfl ?_
    refine v_get dX4_put_31 gf_X4_18 (hH 10 i hi) rfl ?_
    refine v_iconst dX4_put_34 ?_
    refine v_iadd dX4_put_35 ?_
    refine v_put dX4_put_36 pf_X4_18 (hH 10 i hi) rfl rfl (Nat.le_of_ble_eq_true rfl) ?_
    generalize hMe36 : wup _ _ _ = M36
    have hO : wO cntX fw M M36 := by rw [← hMe36]; exact hO.up (k := 10) (i := i) hi
    obtain ⟨s36, hs36⟩ : ∃ z, z = ups s28 10 i (2) (s28 10 i 2 + 1) := ⟨_, rfl⟩
    have hH : wH cntX (cellX G fw) fw s36 M36 := by rw [← hMe36, hs36]; exact wH.up hJ hH (k := 10) (i := i) (2) (s28 10 i 2 + 1) hi rfl
    exact v_vret dX4_put_39 rfl ⟨(Nat.le_of_ble_eq_true rfl), (Nat.le_of_ble_eq_true rfl)⟩ ⟨s36, ⟨hJ, hH, invX_row hI i (fun k i' hq => by rw [hs36, hs28, hs18]; simp only [ups]; rw [if_neg (by omega), if_neg (by omega), if_neg (by omega)]) (by rw [hs36, hs28, hs18]; simp only [ups, upz]; simpa [upz] using hok.push (by omega) ht hv)⟩, hO, Or.inl ⟨by omega, by rw [hs36, e28, hs28, e18, hs18]⟩⟩
set_option maxHeartbeats 4000000 in
set_option maxRecDepth 100000 in
theorem tX4_clear {G : gG} {fw : Nat → Nat → Nat} {s : sG} {M : wM} (hX : wX G fw s M) {i : Nat} (hi : i < 45) : wT G qX4_clear 0 0 [.ref (fw 10 i)] M (vP fun M' => ∃ s', wX G fw s' M' ∧ wO cntX fw M M' ∧ s' = ups s 10 i 2 0) := by
  refine wT.intro (by decide) (Nat.le_of_ble_eq_true rfl) (fun sz => ?_)
  obtain ⟨hJ, hH, hI⟩ := id hX
  have hO : wO cntX fw M M := wO.rf
  refine v_aloadn dX4_clear_0 rfl ?_
  refine v_iconst dX4_clear_1 ?_
  refine v_put dX4_clear_2 pf_X4_18 (hH 10 i hi) rfl rfl (Nat.le_of_ble_eq_true rfl) ?_
  generalize hMe2 : wup _ _ _ = M2
  have hO : wO cntX fw M M2 := by rw [← hMe2]; exact hO.up (k := 10) (i := i) hi
  obtain ⟨s2, hs2⟩ : ∃ z, z = ups s 10 i (2) (0) := ⟨_, rfl⟩
  have hH : wH cntX (cellX G fw) fw s2 M2 := by rw [← hMe2, hs2]; exact wH.up hJ hH (k := 10) (i := i) (2) (0) hi rfl
  exact v_vret dX4_clear_5 rfl ⟨(Nat.le_of_ble_eq_true rfl), (Nat.le_of_ble_eq_true rfl)⟩ ⟨s2, ⟨hJ, hH, invX_row hI i (fun k i' hq => by rw [hs2]; simp only [ups]; rw [if_neg (by omega)]) (by rw [hs2, ups_at, ups_kf _ (by decide), ups_kf _ (by decide)]; exact (hI.2.2.2.2.1 i hi).less (by simp [upz]) (by simp [upz]; exact (hI.2.2.2.2.1 i hi).1))⟩, hO, hs2⟩
set_option maxHeartbeats 4000000 in
set_option maxRecDepth 100000 in
theorem tX4_dropFrom {G : gG} {fw : Nat → Nat → Nat} {s : sG} {M : wM} (hX : wX G fw s M) {i : Nat} (hi : i < 45) {t : Int} (ht : bt 0 t 4000) : wT G qX4_dropFrom 0 0 [.ref (fw 10 i), .int (gI t)] M (iP fun x M' => ∃ s' z, wX G fw s' M' ∧ wO cntX fw M M' ∧ lateP (s 10 i 2) (s 11 i) (t - 1) z ∧ s' = ups s 10 i 2 (z + 1) ∧ x = s 10 i 2 - (z + 1)) := by
  refine wT.intro (by decide) (Nat.le_of_ble_eq_true rfl) (fun sz => ?_)
  obtain ⟨hJ, hH, hI⟩ := id hX
  have hO : wO cntX fw M M := wO.rf
  have hok := hI.2.2.2.2.1 i hi
  have hn0 := hok.1
  have hn1 := hok.2.1
  refine v_aloadn dX4_dropFrom_0 rfl ?_
  refine v_get dX4_dropFrom_1 gf_X4_18 (hH 10 i hi) rfl ?_
  refine v_istoren dX4_dropFrom_4 (Nat.le_of_ble_eq_true rfl) ?_
  refine v_aloadn dX4_dropFrom_5 rfl ?_
  refine v_aloadn dX4_dropFrom_6 rfl ?_
  refine v_iloadn dX4_dropFrom_7 rfl ?_
  refine v_iconst dX4_dropFrom_8 ?_
  refine v_isub dX4_dropFrom_9 ?_
  refine v_callV (tX4_latest (hX.row hi) (by omega)) lc_X4_22 ⟨(Nat.le_of_ble_eq_true rfl), (Nat.le_of_ble_eq_true rfl)⟩ dX4_dropFrom_10 rfl rfl (Nat.le_of_ble_eq_true rfl) ⟨(Nat.le_of_ble_eq_true rfl), (Nat.le_of_ble_eq_true rfl)⟩ ⟨_, _, _, _, (hH 10 i hi), rfl⟩ (kP fun r10 hr10 hp10 => ?_)
  have hq10 := hp10; unfold lateP at hq10
  refine v_iconst dX4_dropFrom_13 ?_
  refine v_iadd dX4_dropFrom_14 ?_
  refine v_put dX4_dropFrom_15 pf_X4_18 (hH 10 i hi) rfl rfl (Nat.le_of_ble_eq_true rfl) ?_
  generalize hMe15 : wup _ _ _ = M15
  have hO : wO cntX fw M M15 := by rw [← hMe15]; exact hO.up (k := 10) (i := i) hi
  obtain ⟨s15, hs15⟩ : ∃ z, z = ups s 10 i (2) (r10 + 1) := ⟨_, rfl⟩
  have hH : wH cntX (cellX G fw) fw s15 M15 := by rw [← hMe15, hs15]; exact wH.up hJ hH (k := 10) (i := i) (2) (r10 + 1) hi rfl
  have e15 : s15 10 i 2 = r10 + 1 := by rw [hs15, ups_at]; rfl
  refine v_iloadn dX4_dropFrom_18 rfl ?_
  refine v_aloadn dX4_dropFrom_19 rfl ?_
  refine v_get dX4_dropFrom_20 gf_X4_18 (hH 10 i hi) rfl ?_
  refine v_isub dX4_dropFrom_23 ?_
  exact v_iret dX4_dropFrom_24 rfl ⟨(Nat.le_of_ble_eq_true rfl), (Nat.le_of_ble_eq_true rfl)⟩ (by omega) ⟨s15, r10, ⟨hJ, hH, invX_row hI i (fun k i' hq => by rw [hs15]; simp only [ups]; rw [if_neg (by omega)]) (by rw [e15, hs15, ups_kf _ (by decide), ups_kf _ (by decide)]; exact hok.less (by omega) (by omega))⟩, hO, hp10, hs15, by omega⟩
set_option maxHeartbeats 4000000 in
set_option maxRecDepth 100000 in
theorem tX2_coverWhile {G : gG} {fw : Nat → Nat → Nat} {s : sG} {M : wM} (hX : wX G fw s M) {i j : Nat} (hi : i < 10) (hj : j < 45) {a v : Int} (ha : bt 0 a 11) (hv : bt 0 v 256) : wT G qX2_coverWhile 0 0 [.ref (fw 13 i), .int (gI a), .ref (fw 10 j), .int (gI v)] M (vP fun M' => ∃ s', wX G fw s' M' ∧ wO cntX fw M M' ∧ s' = ups (ups (ups s 13 i 1 a) 13 i 2 (j : Int)) 13 i 3 v) := by
  refine wT.intro (by decide) (Nat.le_of_ble_eq_true rfl) (fun sz => ?_)
  obtain ⟨hJ, hH, hI⟩ := id hX
  have hO : wO cntX fw M M := wO.rf
  refine v_aloadn dX2_coverWhile_0 rfl ?_
  refine v_iloadn dX2_coverWhile_1 rfl ?_
  refine v_put dX2_coverWhile_2 pf_X2_16 (hH 13 i hi) rfl rfl (Nat.le_of_ble_eq_true rfl) ?_
  generalize hMe2 : wup _ _ _ = M2
  have hO : wO cntX fw M M2 := by rw [← hMe2]; exact hO.up (k := 13) (i := i) hi
  obtain ⟨s2, hs2⟩ : ∃ z, z = ups s 13 i (1) (a) := ⟨_, rfl⟩
  have hH : wH cntX (cellX G fw) fw s2 M2 := by rw [← hMe2, hs2]; exact wH.up hJ hH (k := 13) (i := i) (1) (a) hi rfl
  refine v_aloadn dX2_coverWhile_5 rfl ?_
  refine v_aloadn dX2_coverWhile_6 rfl ?_
  refine v_put dX2_coverWhile_7 pf_X2_20 (hH 13 i hi) rfl rfl (Nat.le_of_ble_eq_true rfl) ?_
  generalize hMe7 : wup _ _ _ = M7
  have hO : wO cntX fw M M7 := by rw [← hMe7]; exact hO.up (k := 13) (i := i) hi
  obtain ⟨s7, hs7⟩ : ∃ z, z = ups s2 13 i (2) ((j : Int)) := ⟨_, rfl⟩
  have hH : wH cntX (cellX G fw) fw s7 M7 := by rw [← hMe7, hs7]; exact wH.up hJ hH (k := 13) (i := i) (2) ((j : Int)) hi rfl
  refine v_aloadn dX2_coverWhile_10 rfl ?_
  refine v_iloadn dX2_coverWhile_11 rfl ?_
  refine v_put dX2_coverWhile_12 pf_X2_23 (hH 13 i hi) rfl rfl (Nat.le_of_ble_eq_true rfl) ?_
  generalize hMe12 : wup _ _ _ = M12
  have hO : wO cntX fw M M12 := by rw [← hMe12]; exact hO.up (k := 13) (i := i) hi
  obtain ⟨s12, hs12⟩ : ∃ z, z = ups s7 13 i (3) (v) := ⟨_, rfl⟩
  have hH : wH cntX (cellX G fw) fw s12 M12 := by rw [← hMe12, hs12]; exact wH.up hJ hH (k := 13) (i := i) (3) (v) hi rfl
  exact v_vret dX2_coverWhile_15 rfl ⟨(Nat.le_of_ble_eq_true rfl), (Nat.le_of_ble_eq_true rfl)⟩ ⟨s12, ⟨hJ, hH, invX_mask hI i (fun k i' hq => by rw [hs12, hs7, hs2]; simp only [ups]; rw [if_neg hq, if_neg hq, if_neg hq]) (by rw [hs12, hs7, hs2]; simp [ups_at, upz] <;> omega)⟩, hO, by rw [hs12, hs7, hs2]⟩
end
section
set_option maxHeartbeats 4000000 in
set_option maxRecDepth 100000 in
theorem tX2_coverTicks {G : gG} {fw : Nat → Nat → Nat} {s : sG} {M : wM} (hX : wX G fw s M) {i : Nat} (hi : i < 10) {c a b : Int} (hc : bt 0 c 11) (ha : bt 0 a 4000) (hb : bt 0 b 4000) : wT G qX2_coverTicks 0 0 [.ref (fw 13 i), .int (gI c), .int (gI a), .int (gI b)] M (vP fun M' => ∃ s', wX G fw s' M' ∧ wO cntX fw M M' ∧ ∀ k i', ¬ (10 ≤ k ∧ k ≤ 12 ∧ i' = 24 + i) → ¬ (k = 13 ∧ i' = i) → s' k i' = s k i') := by
  refine wT.intro (by decide) (Nat.le_of_ble_eq_true rfl) (fun sz => ?_)
  refine v_aloadn dX2_coverTicks_0 rfl ?_
  refine v_get dX2_coverTicks_1 gf_X2_10 (hX.2.1 13 i hi) rfl ?_
  refine v_callV (tX4_clear hX (i := 24 + i) (by omega)) lc_X2_26 ⟨(Nat.le_of_ble_eq_true rfl), (Nat.le_of_ble_eq_true rfl)⟩ dX2_coverTicks_4 rfl rfl (Nat.le_of_ble_eq_true rfl) ⟨(Nat.le_of_ble_eq_true rfl), (Nat.le_of_ble_eq_true rfl)⟩ ⟨_, _, _, _, hX.2.1 10 (24 + i) (by simp [cntX]; omega), rfl⟩ (kV fun M4 hp4 => ?_)
  obtain ⟨sa, hXa, hOa, hsa⟩ := hp4
  refine v_aloadn dX2_coverTicks_7 rfl ?_
  refine v_get dX2_coverTicks_8 gf_X2_10 (hXa.2.1 13 i hi) rfl ?_
  refine v_iloadn dX2_coverTicks_11 rfl ?_
  refine v_iconst dX2_coverTicks_12 ?_
  refine v_callV (tX4_put hXa (i := 24 + i) (by omega) (by omega) (by omega)) lc_X2_29 ⟨(Nat.le_of_ble_eq_true rfl), (Nat.le_of_ble_eq_true rfl)⟩ dX2_coverTicks_13 rfl rfl (Nat.le_of_ble_eq_true rfl) ⟨(Nat.le_of_ble_eq_true rfl), (Nat.le_of_ble_eq_true rfl)⟩ ⟨_, _, _, _, hXa.2.1 10 (24 + i) (by simp [cntX]; omega), rfl⟩ (kV fun M13 hp13 => ?_)
  obtain ⟨sb, hXb, hOb, hsb⟩ := hp13
  refine v_aloadn dX2_coverTicks_16 rfl ?_
  refine v_get dX2_coverTicks_17 gf_X2_10 (hXb.2.1 13 i hi) rfl ?_
  refine v_iloadn dX2_coverTicks_20 rfl ?_
  refine v_iconst dX2_coverTicks_21 ?_
  refine v_callV (tX4_put hXb (i := 24 + i) (by omega) (by omega) (by omega)) lc_X2_29 ⟨(Nat.le_of_ble_eq_true rfl), (Nat.le_of_ble_eq_true rfl)⟩ dX2_coverTicks_22 rfl rfl (Nat.le_of_ble_eq_true rfl) ⟨(Nat.le_of_ble_eq_true rfl), (Nat.le_of_ble_eq_true rfl)⟩ ⟨_, _, _, _, hXb.2.1 10 (24 + i) (by simp [cntX]; omega), rfl⟩ (kV fun M22 hp22 => ?_)
  obtain ⟨sc, hXc, hOc, hsc⟩ := hp22
  refine v_aloadn dX2_coverTicks_25 rfl ?_
  refine v_iloadn dX2_coverTicks_26 rfl ?_
  refine v_aloadn dX2_coverTicks_27 rfl ?_
  refine v_get dX2_coverTicks_28 gf_X2_10 (hXc.2.1 13 i hi) rfl ?_
  refine v_iconst dX2_coverTicks_31 ?_
  refine v_callV (tX2_coverWhile hXc (j := 24 + i) hi (by omega) hc (by omega)) lc_X2_33 ⟨(Nat.le_of_ble_eq_true rfl), (Nat.le_of_ble_eq_true rfl)⟩ dX2_coverTicks_32 rfl rfl (Nat.le_of_ble_eq_true rfl) ⟨(Nat.le_of_ble_eq_true rfl), (Nat.le_of_ble_eq_true rfl)⟩ ⟨_, _, _, _, hXc.2.1 13 i hi, rfl⟩ (kV fun M32 hp32 => ?_)
  obtain ⟨sd, hXd, hOd, hsd⟩ := hp32
  exact v_vret dX2_coverTicks_35 rfl ⟨(Nat.le_of_ble_eq_true rfl), (Nat.le_of_ble_eq_true rfl)⟩ ⟨sd, hXd, ((hOa.tr hOb).tr hOc).tr hOd, fun k i' h1 h2 => by
    rw [hsd]; simp only [ups]; rw [if_neg h2, if_neg h2, if_neg h2]
    have ec : sc k i' = sb k i' := by
      rcases hsc with ⟨-, h⟩ | ⟨-, h⟩
      · rw [h]; simp only [ups]; rw [if_neg (by omega), if_neg (by omega), if_neg (by omega)]
      · rw [h]
    have eb : sb k i' = sa k i' := by
      rcases hsb with ⟨-, h⟩ | ⟨-, h⟩
      · rw [h]; simp only [ups]; rw [if_neg (by omega), if_neg (by omega), if_neg (by omega)]
      · rw [h]
    rw [ec, eb, hsa]; simp only [ups]; rw [if_neg (by omega)]⟩
set_option maxHeartbeats 4000000 in
set_option maxRecDepth 100000 in
theorem tX0_tell {G : gG} {fw : Nat → Nat → Nat} {s : sG} {M : wM} (hX : wX G fw s M) {i : Nat} (hi : i < 4) {a b c d : Int} (ha : bt 0 a 11) (hb : bt 0 b 11) (hc : bt 0 c 11) (hd : bt 0 d 11) : wT G qX0_tell 0 0 [.ref (fw 14 i), .int (gI a), .int (gI b), .int (gI c), .int (gI d)] M (vP fun M' => ∃ s', wX G fw s' M' ∧ wO cntX fw M M' ∧ s' = ups (ups (ups (ups (ups s 14 i 0 1) 14 i 1 a) 14 i 2 b) 14 i 3 c) 14 i 4 d) := by
  refine wT.intro (by decide) (Nat.le_of_ble_eq_true rfl) (fun sz => ?_)
  obtain ⟨hJ, hH, hI⟩ := id hX
  have hO : wO cntX fw M M := wO.rf
  refine v_aloadn dX0_tell_0 rfl ?_
  refine v_iconst dX0_tell_1 ?_
  refine v_put dX0_tell_2 pf_X0_7 (hH 14 i hi) rfl rfl (Nat.le_of_ble_eq_true rfl) ?_
  generalize hMe2 : wup _ _ _ = M2
  have hO : wO cntX fw M M2 := by rw [← hMe2]; exact hO.up (k := 14) (i := i) hi
  obtain ⟨s2, hs2⟩ : ∃ z, z = ups s 14 i (0) (1) := ⟨_, rfl⟩
  have hH : wH cntX (cellX G fw) fw s2 M2 := by rw [← hMe2, hs2]; exact wH.up hJ hH (k := 14) (i := i) (0) (1) hi rfl
  refine v_aloadn dX0_tell_5 rfl ?_
  refine v_iloadn dX0_tell_6 rfl ?_
  refine v_put dX0_tell_7 pf_X0_13 (hH 14 i hi) rfl rfl (Nat.le_of_ble_eq_true rfl) ?_
  generalize hMe7 : wup _ _ _ = M7
  have hO : wO cntX fw M M7 := by rw [← hMe7]; exact hO.up (k := 14) (i := i) hi
  obtain ⟨s7, hs7⟩ : ∃ z, z = ups s2 14 i (1) (a) := ⟨_, rfl⟩
  have hH : wH cntX (cellX G fw) fw s7 M7 := by rw [← hMe7, hs7]; exact wH.up hJ hH (k := 14) (i := i) (1) (a) hi rfl
  refine v_aloadn dX0_tell_10 rfl ?_
  refine v_iloadn dX0_tell_11 rfl ?_
  refine v_put dX0_tell_12 pf_X0_17 (hH 14 i hi) rfl rfl (Nat.le_of_ble_eq_true rfl) ?_
  generalize hMe12 : wup _ _ _ = M12
  have hO : wO cntX fw M M12 := by rw [← hMe12]; exact hO.up (k := 14) (i := i) hi
  obtain ⟨s12, hs12⟩ : ∃ z, z = ups s7 14 i (2) (b) := ⟨_, rfl⟩
  have hH : wH cntX (cellX G fw) fw s12 M12 := by rw [← hMe12, hs12]; exact wH.up hJ hH (k := 14) (i := i) (2) (b) hi rfl
  refine v_aloadn dX0_tell_15 rfl ?_
  refine v_iloadn dX0_tell_16 rfl ?_
  refine v_put dX0_tell_17 pf_X0_20 (hH 14 i hi) rfl rfl (Nat.le_of_ble_eq_true rfl) ?_
  generalize hMe17 : wup _ _ _ = M17
  have hO : wO cntX fw M M17 := by rw [← hMe17]; exact hO.up (k := 14) (i := i) hi
  obtain ⟨s17, hs17⟩ : ∃ z, z = ups s12 14 i (3) (c) := ⟨_, rfl⟩
  have hH : wH cntX (cellX G fw) fw s17 M17 := by rw [← hMe17, hs17]; exact wH.up hJ hH (k := 14) (i := i) (3) (c) hi rfl
  refine v_aloadn dX0_tell_20 rfl ?_
  refine v_iload dX0_tell_21 rfl ?_
  refine v_put dX0_tell_23 pf_X0_23 (hH 14 i hi) rfl rfl (Nat.le_of_ble_eq_true rfl) ?_
  generalize hMe23 : wup _ _ _ = M23
  have hO : wO cntX fw M M23 := by rw [← hMe23]; exact hO.up (k := 14) (i := i) hi
  obtain ⟨s23, hs23⟩ : ∃ z, z = ups s17 14 i (4) (d) := ⟨_, rfl⟩
  have hH : wH cntX (cellX G fw) fw s23 M23 := by rw [← hMe23, hs23]; exact wH.up hJ hH (k := 14) (i := i) (4) (d) hi rfl
  exact v_vret dX0_tell_26 rfl ⟨(Nat.le_of_ble_eq_true rfl), (Nat.le_of_ble_eq_true rfl)⟩ ⟨s23, ⟨hJ, hH, invX_chan hI i (fun k i' hq => by rw [hs23, hs17, hs12, hs7, hs2]; simp only [ups]; rw [if_neg hq, if_neg hq, if_neg hq, if_neg hq, if_neg hq]) (by rw [hs23, hs17, hs12, hs7, hs2]; simp [ups_at, upz] <;> omega)⟩, hO, by rw [hs23, hs17, hs12, hs7, hs2]⟩
set_option maxHeartbeats 4000000 in
set_option maxRecDepth 100000 in
theorem tX1_tell {G : gG} {fw : Nat → Nat → Nat} {s : sG} {M : wM} (hX : wX G fw s M) {i : Nat} (hi : i < 12) {a b c : Int} (ha : bt 0 a 6) (hb : bt 0 b 11) (hc : bt 0 c 11) : wT G qX1_tell 0 0 [.ref (fw 15 i), .int (gI a), .int (gI b), .int (gI c)] M (vP fun M' => ∃ s', wX G fw s' M' ∧ wO cntX fw M M' ∧ s' = ups (ups (ups s 15 i 0 a) 15 i 1 b) 15 i 2 c) := by
  refine wT.intro (by decide) (Nat.le_of_ble_eq_true rfl) (fun sz => ?_)
  obtain ⟨hJ, hH, hI⟩ := id hX
  have hO : wO cntX fw M M := wO.rf
  refine v_aloadn dX1_tell_0 rfl ?_
  refine v_iloadn dX1_tell_1 rfl ?_
  refine v_put dX1_tell_2 pf_X1_9 (hH 15 i hi) rfl rfl (Nat.le_of_ble_eq_true rfl) ?_
  generalize hMe2 : wup _ _ _ = M2
  have hO : wO cntX fw M M2 := by rw [← hMe2]; exact hO.up (k := 15) (i := i) hi
  obtain ⟨s2, hs2⟩ : ∃ z, z = ups s 15 i (0) (a) := ⟨_, rfl⟩
  have hH : wH cntX (cellX G fw) fw s2 M2 := by rw [← hMe2, hs2]; exact wH.up hJ hH (k := 15) (i := i) (0) (a) hi rfl
  refine v_aloadn dX1_tell_5 rfl ?_
  refine v_iloadn dX1_tell_6 rfl ?_
  refine v_put dX1_tell_7 pf_X1_15 (hH 15 i hi) rfl rfl (Nat.le_of_ble_eq_true rfl) ?_
  generalize hMe7 : wup _ _ _ = M7
  have hO : wO cntX fw M M7 := by rw [← hMe7]; exact hO.up (k := 15) (i := i) hi
  obtain ⟨s7, hs7⟩ : ∃ z, z = ups s2 15 i (1) (b) := ⟨_, rfl⟩
  have hH : wH cntX (cellX G fw) fw s7 M7 := by rw [← hMe7, hs7]; exact wH.up hJ hH (k := 15) (i := i) (1) (b) hi rfl
  refine v_aloadn dX1_tell_10 rfl ?_
  refine v_iloadn dX1_tell_11 rfl ?_
  refine v_put dX1_tell_12 pf_X1_18 (hH 15 i hi) rfl rfl (Nat.le_of_ble_eq_true rfl) ?_
  generalize hMe12 : wup _ _ _ = M12
  have hO : wO cntX fw M M12 := by rw [← hMe12]; exact hO.up (k := 15) (i := i) hi
  obtain ⟨s12, hs12⟩ : ∃ z, z = ups s7 15 i (2) (c) := ⟨_, rfl⟩
  have hH : wH cntX (cellX G fw) fw s12 M12 := by rw [← hMe12, hs12]; exact wH.up hJ hH (k := 15) (i := i) (2) (c) hi rfl
  exact v_vret dX1_tell_15 rfl ⟨(Nat.le_of_ble_eq_true rfl), (Nat.le_of_ble_eq_true rfl)⟩ ⟨s12, ⟨hJ, hH, invX_gate hI i (fun k i' hq => by rw [hs12, hs7, hs2]; simp only [ups]; rw [if_neg hq, if_neg hq, if_neg hq]) (by rw [hs12, hs7, hs2]; simp [ups_at, upz] <;> omega)⟩, hO, by rw [hs12, hs7, hs2]⟩
set_option maxHeartbeats 4000000 in
set_option maxRecDepth 100000 in
theorem tX3_wantUnlike {G : gG} {fw : Nat → Nat → Nat} {s : sG} {M : wM} (hX : wX G fw s M) {i j k : Nat} (hi : i < 11) (hj : j < 45) (hk : k < 45) {a b : Int} (ha : bt (-50) a 50) (hb : bt 0 b 1) : wT G qX3_wantUnlike 0 0 [.ref (fw 16 i), .ref (fw 10 j), .ref (fw 10 k), .int (gI a), .int (gI b)] M (vP fun M' => ∃ s', wX G fw s' M' ∧ wO cntX fw M M' ∧ s' = ups (ups (ups (ups (ups s 16 i 1 (j : Int)) 16 i 2 (k : Int)) 16 i 3 a) 16 i 4 b) 16 i 5 0) := by
  refine wT.intro (by decide) (Nat.le_of_ble_eq_true rfl) (fun sz => ?_)
  obtain ⟨hJ, hH, hI⟩ := id hX
  have hO : wO cntX fw M M := wO.rf
  refine v_aloadn dX3_wantUnlike_0 rfl ?_
  refine v_aloadn dX3_wantUnlike_1 rfl ?_
  refine v_put dX3_wantUnlike_2 pf_X3_18 (hH 16 i hi) rfl rfl (Nat.le_of_ble_eq_true rfl) ?_
  generalize hMe2 : wup _ _ _ = M2
  have hO : wO cntX fw M M2 := by rw [← hMe2]; exact hO.up (k := 16) (i := i) hi
  obtain ⟨s2, hs2⟩ : ∃ z, z = ups s 16 i (1) ((j : Int)) := ⟨_, rfl⟩
  have hH : wH cntX (cellX G fw) fw s2 M2 := by rw [← hMe2, hs2]; exact wH.up hJ hH (k := 16) (i := i) (1) ((j : Int)) hi rfl
  refine v_aloadn dX3_wantUnlike_5 rfl ?_
  refine v_aloadn dX3_wantUnlike_6 rfl ?_
  refine v_put dX3_wantUnlike_7 pf_X3_21 (hH 16 i hi) rfl rfl (Nat.le_of_ble_eq_true rfl) ?_
  generalize hMe7 : wup _ _ _ = M7
  have hO : wO cntX fw M M7 := by rw [← hMe7]; exact hO.up (k := 16) (i := i) hi
  obtain ⟨s7, hs7⟩ : ∃ z, z = ups s2 16 i (2) ((k : Int)) := ⟨_, rfl⟩
  have hH : wH cntX (cellX G fw) fw s7 M7 := by rw [← hMe7, hs7]; exact wH.up hJ hH (k := 16) (i := i) (2) ((k : Int)) hi rfl
  refine v_aloadn dX3_wantUnlike_10 rfl ?_
  refine v_iloadn dX3_wantUnlike_11 rfl ?_
  refine v_put dX3_wantUnlike_12 pf_X3_24 (hH 16 i hi) rfl rfl (Nat.le_of_ble_eq_true rfl) ?_
  generalize hMe12 : wup _ _ _ = M12
  have hO : wO cntX fw M M12 := by rw [← hMe12]; exact hO.up (k := 16) (i := i) hi
  obtain ⟨s12, hs12⟩ : ∃ z, z = ups s7 16 i (3) (a) := ⟨_, rfl⟩
  have hH : wH cntX (cellX G fw) fw s12 M12 := by rw [← hMe12, hs12]; exact wH.up hJ hH (k := 16) (i := i) (3) (a) hi rfl
  refine v_aloadn dX3_wantUnlike_15 rfl ?_
  refine v_iload dX3_wantUnlike_16 rfl ?_
  refine v_put dX3_wantUnlike_18 pf_X3_28 (hH 16 i hi) (by rcases (show b = 0 ∨ b = 1 by omega) with h | h <;> rw [h] <;> decide) (by rcases (show b = 0 ∨ b = 1 by omega) with h | h <;> rw [h] <;> decide) (Nat.le_of_ble_eq_true rfl) ?_
  generalize hMe18 : wup _ _ _ = M18
  have hO : wO cntX fw M M18 := by rw [← hMe18]; exact hO.up (k := 16) (i := i) hi
  obtain ⟨s18, hs18⟩ : ∃ z, z = ups s12 16 i (4) (b) := ⟨_, rfl⟩
  have hH : wH cntX (cellX G fw) fw s18 M18 := by rw [← hMe18, hs18]; exact wH.up hJ hH (k := 16) (i := i) (4) (b) hi rfl
  refine v_aloadn dX3_wantUnlike_21 rfl ?_
  refine v_iconst dX3_wantUnlike_22 ?_
  refine v_put dX3_wantUnlike_23 pf_X3_32 (hH 16 i hi) rfl rfl (Nat.le_of_ble_eq_true rfl) ?_
  generalize hMe23 : wup _ _ _ = M23
  have hO : wO cntX fw M M23 := by rw [← hMe23]; exact hO.up (k := 16) (i := i) hi
  obtain ⟨s23, hs23⟩ : ∃ z, z = ups s18 16 i (5) (0) := ⟨_, rfl⟩
  have hH : wH cntX (cellX G fw) fw s23 M23 := by rw [← hMe23, hs23]; exact wH.up hJ hH (k := 16) (i := i) (5) (0) hi rfl
  exact v_vret dX3_wantUnlike_26 rfl ⟨(Nat.le_of_ble_eq_true rfl), (Nat.le_of_ble_eq_true rfl)⟩ ⟨s23, ⟨hJ, hH, invX_pair hI i (fun k i' hq => by rw [hs23, hs18, hs12, hs7, hs2]; simp only [ups]; rw [if_neg hq, if_neg hq, if_neg hq, if_neg hq, if_neg hq]) (by rw [hs23, hs18, hs12, hs7, hs2]; simp [ups_at, upz] <;> omega)⟩, hO, by rw [hs23, hs18, hs12, hs7, hs2]⟩
theorem keepX_put {s s' : sG} {i n : Nat} {t v : Int} {b c d : Int} (hi : 34 ≤ i) (h : (b < 50 ∧ s' = ups (ups (ups s 11 i n t) 12 i n v) 10 i 2 c) ∨ (d = 50 ∧ s' = s)) : keepX s s' ∧ s' 8 = s 8 ∧ s' 16 = s 16 := by
  rcases h with ⟨-, h⟩ | ⟨-, h⟩
  · rw [h]
    refine ⟨fun k i' hq => ?_, ?_, ?_⟩
    · unfold scrX at hq
      simp only [ups]
      rw [if_neg (by omega), if_neg (by omega), if_neg (by omega)]
    · rw [ups_kf _ (by decide), ups_kf _ (by decide), ups_kf _ (by decide)]
    · rw [ups_kf _ (by decide), ups_kf _ (by decide), ups_kf _ (by decide)]
  · rw [h]
    exact ⟨keepX.rf, rfl, rfl⟩
set_option maxHeartbeats 4000000 in
set_option maxRecDepth 100000 in
theorem tX3_wantValue {G : gG} {fw : Nat → Nat → Nat} {s : sG} {M : wM} (hX : wX G fw s M) {i j : Nat} (hi : i < 11) (hj : j < 45) {v : Int} (hv : bt 0 v 256) : wT G qX3_wantValue 0 0 [.ref (fw 16 i), .ref (fw 10 j), .int (gI v)] M (vP fun M' => ∃ s', wX G fw s' M' ∧ wO cntX fw M M' ∧ keepX s s' ∧ s' 8 = s 8) := by
  refine wT.intro (by decide) (Nat.le_of_ble_eq_true rfl) (fun sz => ?_)
  refine v_aloadn dX3_wantValue_0 rfl ?_
  refine v_get dX3_wantValue_1 gf_X3_12 (hX.2.1 16 i hi) rfl ?_
  refine v_callV (tX4_clear hX (i := 34 + i) (by omega)) lc_X3_35 ⟨(Nat.le_of_ble_eq_true rfl), (Nat.le_of_ble_eq_true rfl)⟩ dX3_wantValue_4 rfl rfl (Nat.le_of_ble_eq_true rfl) ⟨(Nat.le_of_ble_eq_true rfl), (Nat.le_of_ble_eq_true rfl)⟩ ⟨_, _, _, _, hX.2.1 10 (34 + i) (by simp [cntX]; omega), rfl⟩ (kV fun M4 hp4 => ?_)
  obtain ⟨sa, hXa, hOa, hsa⟩ := hp4
  refine v_aloadn dX3_wantValue_7 rfl ?_
  refine v_get dX3_wantValue_8 gf_X3_12 (hXa.2.1 16 i hi) rfl ?_
  refine v_iconst dX3_wantValue_11 ?_
  refine v_iloadn dX3_wantValue_12 rfl ?_
  refine v_callV (tX4_put hXa (i := 34 + i) (by omega) (by omega) (by omega)) lc_X3_38 ⟨(Nat.le_of_ble_eq_true rfl), (Nat.le_of_ble_eq_true rfl)⟩ dX3_wantValue_13 rfl rfl (Nat.le_of_ble_eq_true rfl) ⟨(Nat.le_of_ble_eq_true rfl), (Nat.le_of_ble_eq_true rfl)⟩ ⟨_, _, _, _, hXa.2.1 10 (34 + i) (by simp [cntX]; omega), rfl⟩ (kV fun M13 hp13 => ?_)
  obtain ⟨sb, hXb, hOb, hsb⟩ := hp13
  obtain ⟨hJ, hH, hI⟩ := id hXb
  have hO : wO cntX fw M M13 := hOa.tr hOb
  obtain ⟨kb1, kb2, kb3⟩ := keepX_put (i := 34 + i) (by omega) hsb
  refine v_aloadn dX3_wantValue_16 rfl ?_
  refine v_aloadn dX3_wantValue_17 rfl ?_
  refine v_put dX3_wantValue_18 pf_X3_18 (hH 16 i hi) rfl rfl (Nat.le_of_ble_eq_true rfl) ?_
  generalize hMe18 : wup _ _ _ = M18
  have hO : wO cntX fw M M18 := by rw [← hMe18]; exact hO.up (k := 16) (i := i) hi
  obtain ⟨s18, hs18⟩ : ∃ z, z = ups sb 16 i (1) ((j : Int)) := ⟨_, rfl⟩
  have hH : wH cntX (cellX G fw) fw s18 M18 := by rw [← hMe18, hs18]; exact wH.up hJ hH (k := 16) (i := i) (1) ((j : Int)) hi rfl
  refine v_aloadn dX3_wantValue_21 rfl ?_
  refine v_aloadn dX3_wantValue_22 rfl ?_
  refine v_get dX3_wantValue_23 gf_X3_12 (hH 16 i hi) rfl ?_
  refine v_put dX3_wantValue_26 pf_X3_21 (hH 16 i hi) rfl rfl (Nat.le_of_ble_eq_true rfl) ?_
  generalize hMe26 : wup _ _ _ = M26
  have hO : wO cntX fw M M26 := by rw [← hMe26]; exact hO.up (k := 16) (i := i) hi
  obtain ⟨s26, hs26⟩ : ∃ z, z = ups s18 16 i (2) (((34 + i : Nat) : Int)) := ⟨_, rfl⟩
  have hH : wH cntX (cellX G fw) fw s26 M26 := by rw [← hMe26, hs26]; exact wH.up hJ hH (k := 16) (i := i) (2) (((34 + i : Nat) : Int)) hi rfl
  refine v_aloadn dX3_wantValue_29 rfl ?_
  refine v_iconst dX3_wantValue_30 ?_
  refine v_put dX3_wantValue_31 pf_X3_24 (hH 16 i hi) rfl rfl (Nat.le_of_ble_eq_true rfl) ?_
  generalize hMe31 : wup _ _ _ = M31
  have hO : wO cntX fw M M31 := by rw [← hMe31]; exact hO.up (k := 16) (i := i) hi
  obtain ⟨s31, hs31⟩ : ∃ z, z = ups s26 16 i (3) (0) := ⟨_, rfl⟩
  have hH : wH cntX (cellX G fw) fw s31 M31 := by rw [← hMe31, hs31]; exact wH.up hJ hH (k := 16) (i := i) (3) (0) hi rfl
  refine v_aloadn dX3_wantValue_34 rfl ?_
  refine v_iconst dX3_wantValue_35 ?_
  refine v_put dX3_wantValue_36 pf_X3_28 (hH 16 i hi) rfl rfl (Nat.le_of_ble_eq_true rfl) ?_
  generalize hMe36 : wup _ _ _ = M36
  have hO : wO cntX fw M M36 := by rw [← hMe36]; exact hO.up (k := 16) (i := i) hi
  obtain ⟨s36, hs36⟩ : ∃ z, z = ups s31 16 i (4) (0) := ⟨_, rfl⟩
  have hH : wH cntX (cellX G fw) fw s36 M36 := by rw [← hMe36, hs36]; exact wH.up hJ hH (k := 16) (i := i) (4) (0) hi rfl
  refine v_aloadn dX3_wantValue_39 rfl ?_
  refine v_iconst dX3_wantValue_40 ?_
  refine v_put dX3_wantValue_41 pf_X3_32 (hH 16 i hi) rfl rfl (Nat.le_of_ble_eq_true rfl) ?_
  generalize hMe41 : wup _ _ _ = M41
  have hO : wO cntX fw M M41 := by rw [← hMe41]; exact hO.up (k := 16) (i := i) hi
  obtain ⟨s41, hs41⟩ : ∃ z, z = ups s36 16 i (5) (1) := ⟨_, rfl⟩
  have hH : wH cntX (cellX G fw) fw s41 M41 := by rw [← hMe41, hs41]; exact wH.up hJ hH (k := 16) (i := i) (5) (1) hi rfl
  exact v_vret dX3_wantValue_44 rfl ⟨(Nat.le_of_ble_eq_true rfl), (Nat.le_of_ble_eq_true rfl)⟩ ⟨s41, ⟨hJ, hH, invX_pair hI i (fun k i' hq => by rw [hs41, hs36, hs31, hs26, hs18]; simp only [ups]; rw [if_neg hq, if_neg hq, if_neg hq, if_neg hq, if_neg hq]) (by rw [hs41, hs36, hs31, hs26, hs18]; simp [ups_at, upz] <;> omega)⟩, hO, keepX.tr (keepX.tr (s1 := sa) (fun k i' hq => by unfold scrX at hq; rw [hsa]; simp only [ups]; rw [if_neg (by omega)]) kb1) (fun k i' hq => by unfold scrX at hq; rw [hs41, hs36, hs31, hs26, hs18]; simp only [ups]; rw [if_neg (by omega), if_neg (by omega), if_neg (by omega), if_neg (by omega), if_neg (by omega)]), by rw [hs41, hs36, hs31, hs26, hs18, ups_kf _ (by decide), ups_kf _ (by decide), ups_kf _ (by decide), ups_kf _ (by decide), ups_kf _ (by decide), kb2, hsa, ups_kf _ (by decide)]⟩
set_option maxHeartbeats 4000000 in
set_option maxRecDepth 100000 in
theorem tX3_wantValueNot {G : gG} {fw : Nat → Nat → Nat} {s : sG} {M : wM} (hX : wX G fw s M) {i j : Nat} (hi : i < 11) (hj : j < 45) {v : Int} (hv : bt 0 v 256) : wT G qX3_wantValueNot 0 0 [.ref (fw 16 i), .ref (fw 10 j), .int (gI v)] M (vP fun M' => ∃ s', wX G fw s' M' ∧ wO cntX fw M M' ∧ keepX s s' ∧ s' 8 = s 8) := by
  refine wT.intro (by decide) (Nat.le_of_ble_eq_true rfl) (fun sz => ?_)
  refine v_aloadn dX3_wantValueNot_0 rfl ?_
  refine v_aloadn dX3_wantValueNot_1 rfl ?_
  refine v_iloadn dX3_wantValueNot_2 rfl ?_
  refine v_callV (tX3_wantValue hX hi hj hv) lc_X3_42 ⟨(Nat.le_of_ble_eq_true rfl), (Nat.le_of_ble_eq_true rfl)⟩ dX3_wantValueNot_3 rfl rfl (Nat.le_of_ble_eq_true rfl) ⟨(Nat.le_of_ble_eq_true rfl), (Nat.le_of_ble_eq_true rfl)⟩ ⟨_, _, _, _, hX.2.1 16 i hi, rfl⟩ (kV fun M3 hp3 => ?_)
  obtain ⟨sa, hXa, hOa, hka, hsa⟩ := hp3
  obtain ⟨hJ, hH, hI⟩ := id hXa
  have hO : wO cntX fw M M3 := hOa
  refine v_aloadn dX3_wantValueNot_6 rfl ?_
  refine v_iconst dX3_wantValueNot_7 ?_
  refine v_put dX3_wantValueNot_8 pf_X3_32 (hH 16 i hi) rfl rfl (Nat.le_of_ble_eq_true rfl) ?_
  generalize hMe8 : wup _ _ _ = M8
  have hO : wO cntX fw M M8 := by rw [← hMe8]; exact hO.up (k := 16) (i := i) hi
  obtain ⟨s8, hs8⟩ : ∃ z, z = ups sa 16 i (5) (0) := ⟨_, rfl⟩
  have hH : wH cntX (cellX G fw) fw s8 M8 := by rw [← hMe8, hs8]; exact wH.up hJ hH (k := 16) (i := i) (5) (0) hi rfl
  exact v_vret dX3_wantValueNot_11 rfl ⟨(Nat.le_of_ble_eq_true rfl), (Nat.le_of_ble_eq_true rfl)⟩ ⟨s8, ⟨hJ, hH, invX_pair hI i (fun k i' hq => by rw [hs8]; simp only [ups]; rw [if_neg hq]) (by have := hI.2.2.2.2.2.2.2.2 i hi; rw [hs8]; simp [ups_at, upz] <;> omega)⟩, hO, hka.tr (fun k i' hq => by unfold scrX at hq; rw [hs8]; simp only [ups]; rw [if_neg (by omega)]), by rw [hs8, ups_kf _ (by decide), hsa]⟩
end
section
def agF (a b c : Int) : Int := if a = b ∨ (c ≠ 0 ∧ (a = 256 ∨ b = 256)) then 1 else 0
set_option maxHeartbeats 4000000 in
set_option maxRecDepth 100000 in
theorem tX6_agree {G : gG} {M : wM} {a b c : Int} (ha : rng a) (hb : rng b) (hc : rng c) : wT G qX6_agree 0 0 [.int (gI a), .int (gI b), .int (gI c)] M (iP fun x M' => M' = M ∧ (x = agF a b c ∧ (x = 0 ∨ x = 1))) := by
  refine wT.intro (by decide) (Nat.le_of_ble_eq_true rfl) (fun sz => ?_)
  refine v_iloadn dX6_agree_0 rfl ?_
  refine v_iloadn dX6_agree_1 rfl ?_
  refine v_icmp_eq 23 dX6_agree_2 (by decide) (by omega) (by omega) (fun h2 => ?_) (fun h2 => ?_)
  · refine v_iconst dX6_agree_23 ?_
    refine v_goto 28 dX6_agree_24 (by decide) ?_
    exact v_zret dX6_agree_28 rfl ⟨(Nat.le_of_ble_eq_true rfl), (Nat.le_of_ble_eq_true rfl)⟩ (by omega) ⟨rfl, by unfold agF; split <;> omega, by omega⟩
  · refine v_iloadn dX6_agree_5 rfl ?_
    refine v_if_eq 27 dX6_agree_6 (by decide) (by omega) (fun h6 => ?_) (fun h6 => ?_)
    · refine v_iconst dX6_agree_27 ?_
      exact v_zret dX6_agree_28 rfl ⟨(Nat.le_of_ble_eq_true rfl), (Nat.le_of_ble_eq_true rfl)⟩ (by omega) ⟨rfl, by unfold agF; split <;> omega, by omega⟩
    · refine v_iloadn dX6_agree_9 rfl ?_
      refine v_sipush dX6_agree_10 (by decide) ?_
      refine v_icmp_eq 23 dX6_agree_13 (by decide) (by omega) (by omega) (fun h13 => ?_) (fun h13 => ?_)
      · refine v_iconst dX6_agree_23 ?_
        refine v_goto 28 dX6_agree_24 (by decide) ?_
        exact v_zret dX6_agree_28 rfl ⟨(Nat.le_of_ble_eq_true rfl), (Nat.le_of_ble_eq_true rfl)⟩ (by omega) ⟨rfl, by unfold agF; split <;> omega, by omega⟩
      · refine v_iloadn dX6_agree_16 rfl ?_
        refine v_sipush dX6_agree_17 (by decide) ?_
        refine v_icmp_ne 27 dX6_agree_20 (by decide) (by omega) (by omega) (fun h20 => ?_) (fun h20 => ?_)
        · refine v_iconst dX6_agree_27 ?_
          exact v_zret dX6_agree_28 rfl ⟨(Nat.le_of_ble_eq_true rfl), (Nat.le_of_ble_eq_true rfl)⟩ (by omega) ⟨rfl, by unfold agF; split <;> omega, by omega⟩
        · refine v_iconst dX6_agree_23 ?_
          refine v_goto 28 dX6_agree_24 (by decide) ?_
          exact v_zret dX6_agree_28 rfl ⟨(Nat.le_of_ble_eq_true rfl), (Nat.le_of_ble_eq_true rfl)⟩ (by omega) ⟨rfl, by unfold agF; split <;> omega, by omega⟩
set_option maxHeartbeats 4000000 in
set_option maxRecDepth 100000 in
theorem tX6_outside {G : gG} {M : wM} {a b c : Int} (ha : rng a) (hb : rng b) (hc : rng c) : wT G qX6_outside 0 0 [.int (gI a), .int (gI b), .int (gI c)] M (iP fun x M' => M' = M ∧ ((x = 1 ∧ ¬ (b ≤ a ∧ a ≤ c)) ∨ (x = 0 ∧ b ≤ a ∧ a ≤ c))) := by
  refine wT.intro (by decide) (Nat.le_of_ble_eq_true rfl) (fun sz => ?_)
  refine v_iloadn dX6_outside_0 rfl ?_
  refine v_iloadn dX6_outside_1 rfl ?_
  refine v_icmp_lt 10 dX6_outside_2 (by decide) (by omega) (by omega) (fun h2 => ?_) (fun h2 => ?_)
  · refine v_iconst dX6_outside_10 ?_
    refine v_goto 15 dX6_outside_11 (by decide) ?_
    exact v_zret dX6_outside_15 rfl ⟨(Nat.le_of_ble_eq_true rfl), (Nat.le_of_ble_eq_true rfl)⟩ (by omega) ⟨rfl, by omega⟩
  · refine v_iloadn dX6_outside_5 rfl ?_
    refine v_iloadn dX6_outside_6 rfl ?_
    refine v_icmp_le 14 dX6_outside_7 (by decide) (by omega) (by omega) (fun h7 => ?_) (fun h7 => ?_)
    · refine v_iconst dX6_outside_14 ?_
      exact v_zret dX6_outside_15 rfl ⟨(Nat.le_of_ble_eq_true rfl), (Nat.le_of_ble_eq_true rfl)⟩ (by omega) ⟨rfl, by omega⟩
    · refine v_iconst dX6_outside_10 ?_
      refine v_goto 15 dX6_outside_11 (by decide) ?_
      exact v_zret dX6_outside_15 rfl ⟨(Nat.le_of_ble_eq_true rfl), (Nat.le_of_ble_eq_true rfl)⟩ (by omega) ⟨rfl, by omega⟩
set_option maxHeartbeats 4000000 in
set_option maxRecDepth 100000 in
theorem tX3_nextTick_loop {sz : Nat} {M0 : wM} {G : gG} {fw : Nat → Nat → Nat} {s : sG} {M : wM} (hX : wX G fw s M) {i : Nat} (hi : i < 11) {f d w : Int} (hf : bt (-60) f 4000) (hd : bt (-60) d 4000) (hw : bt 0 w 1) {z : Int} (hz : bt 0 z 1) : ∀ (k : Nat) (a b t u : Int), 0 ≤ 102 - u → 102 - u < (k : Int) → (bt 0 u 101) → (bt (-1) a (51 + u)) → (bt (-1) b (51 + u)) → (bt (-60) t 1000050) → wV G qX3_nextTick 0 0 sz M0 0 0 46 [(0, .ref (fw 16 i)), (1, .int (gI f)), (2, .int (gI d)), (3, .int (gI w)), (4, .int (gI z)), (5, .int (gI a)), (6, .int (gI b)), (7, .int (gI t)), (8, .int (gI u))] [] M (iP fun x M' => M' = M ∧ bt (-60) x 4000) := by
  intro k
  induction k with
  | zero =>
    intros
    omega
  | succ k ih =>
    intro a b t u hmz hml h1 h2 h3 h4
    have hq := hX.2.2.2.2.2.2.2.2.2.2 i hi
    have hL := hX.row (i := (s 16 i 1).toNat) (by omega)
    have hR := hX.row (i := (s 16 i 2).toNat) (by omega)
    refine v_iload dX3_nextTick_46 rfl ?_
    refine v_bipush dX3_nextTick_48 (by decide) ?_
    refine v_icmp_gt 172 dX3_nextTick_50 (by decide) (by omega) (by omega) (fun h50 => ?_) (fun h50 => ?_)
    · refine v_iloadn dX3_nextTick_172 rfl ?_
      exact v_iret dX3_nextTick_173 rfl ⟨(Nat.le_of_ble_eq_true rfl), (Nat.le_of_ble_eq_true rfl)⟩ (by omega) ⟨rfl, by omega⟩
    · refine v_iload dX3_nextTick_53 rfl ?_
      refine v_iloadn dX3_nextTick_55 rfl ?_
      refine v_icmp_ge 172 dX3_nextTick_56 (by decide) (by omega) (by omega) (fun h56 => ?_) (fun h56 => ?_)
      · refine v_iloadn dX3_nextTick_172 rfl ?_
        exact v_iret dX3_nextTick_173 rfl ⟨(Nat.le_of_ble_eq_true rfl), (Nat.le_of_ble_eq_true rfl)⟩ (by omega) ⟨rfl, by omega⟩
      · refine v_aloadn dX3_nextTick_59 rfl ?_
        refine v_get dX3_nextTick_60 gf_X3_18 (hX.2.1 16 i hi) rfl ?_
        refine v_iload dX3_nextTick_63 rfl ?_
        refine v_callV (tX4_valueOf hL (by omega)) lc_X3_50 ⟨(Nat.le_of_ble_eq_true rfl), (Nat.le_of_ble_eq_true rfl)⟩ dX3_nextTick_65 rfl rfl (Nat.le_of_ble_eq_true rfl) ⟨(Nat.le_of_ble_eq_true rfl), (Nat.le_of_ble_eq_true rfl)⟩ ⟨_, _, _, _, hL.1, rfl⟩ (kP fun r65 hr65 hp65 => ?_)
        refine v_aloadn dX3_nextTick_68 rfl ?_
        refine v_get dX3_nextTick_69 gf_X3_21 (hX.2.1 16 i hi) rfl ?_
        refine v_iload dX3_nextTick_72 rfl ?_
        refine v_callV (tX4_valueOf hR (by omega)) lc_X3_50 ⟨(Nat.le_of_ble_eq_true rfl), (Nat.le_of_ble_eq_true rfl)⟩ dX3_nextTick_74 rfl rfl (Nat.le_of_ble_eq_true rfl) ⟨(Nat.le_of_ble_eq_true rfl), (Nat.le_of_ble_eq_true rfl)⟩ ⟨_, _, _, _, hR.1, rfl⟩ (kP fun r74 hr74 hp74 => ?_)
        refine v_aloadn dX3_nextTick_77 rfl ?_
        refine v_get dX3_nextTick_78 gf_X3_28 (hX.2.1 16 i hi) rfl ?_
        refine v_callSN (tX6_agree hr65 hr74 (by omega)) lc_X3_53 ⟨(Nat.le_of_ble_eq_true rfl), (Nat.le_of_ble_eq_true rfl)⟩ dX3_nextTick_81 rfl rfl (Nat.le_of_ble_eq_true rfl) ⟨(Nat.le_of_ble_eq_true rfl), (Nat.le_of_ble_eq_true rfl)⟩ (kP fun r81 hr81 hp81 => ?_)
        refine v_iload dX3_nextTick_84 rfl ?_
        refine v_icmp_ne 92 dX3_nextTick_86 (by decide) (by omega) (by omega) (fun h86 => ?_) (fun h86 => ?_)
        · refine v_aloadn dX3_nextTick_92 rfl ?_
          refine v_get dX3_nextTick_93 gf_X3_18 (hX.2.1 16 i hi) rfl ?_
          refine v_iload dX3_nextTick_96 rfl ?_
          refine v_iconst dX3_nextTick_98 ?_
          refine v_iadd dX3_nextTick_99 ?_
          refine v_callV (tX4_tickOf hL (by omega)) lc_X3_57 ⟨(Nat.le_of_ble_eq_true rfl), (Nat.le_of_ble_eq_true rfl)⟩ dX3_nextTick_100 rfl rfl (Nat.le_of_ble_eq_true rfl) ⟨(Nat.le_of_ble_eq_true rfl), (Nat.le_of_ble_eq_true rfl)⟩ ⟨_, _, _, _, hL.1, rfl⟩ (kP fun r100 hr100 hp100 => ?_)
          have hb100 := tickF_rg hL.2.2.2 (a + 1)
          refine v_istore dX3_nextTick_103 (Nat.le_of_ble_eq_true rfl) ?_
          refine v_aloadn dX3_nextTick_105 rfl ?_
          refine v_get dX3_nextTick_106 gf_X3_21 (hX.2.1 16 i hi) rfl ?_
          refine v_iload dX3_nextTick_109 rfl ?_
          refine v_iconst dX3_nextTick_111 ?_
          refine v_iadd dX3_nextTick_112 ?_
          refine v_callV (tX4_tickOf hR (by omega)) lc_X3_57 ⟨(Nat.le_of_ble_eq_true rfl), (Nat.le_of_ble_eq_true rfl)⟩ dX3_nextTick_113 rfl rfl (Nat.le_of_ble_eq_true rfl) ⟨(Nat.le_of_ble_eq_true rfl), (Nat.le_of_ble_eq_true rfl)⟩ ⟨_, _, _, _, hR.1, rfl⟩ (kP fun r113 hr113 hp113 => ?_)
          have hb113 := tickF_rg hR.2.2.2 (b + 1)
          refine v_aloadn dX3_nextTick_116 rfl ?_
          refine v_get dX3_nextTick_117 gf_X3_24 (hX.2.1 16 i hi) rfl ?_
          refine v_isub dX3_nextTick_120 ?_
          refine v_istore dX3_nextTick_121 (Nat.le_of_ble_eq_true rfl) ?_
          refine v_iload dX3_nextTick_123 rfl ?_
          refine v_iload dX3_nextTick_125 rfl ?_
          refine v_min dX3_nextTick_127 lc_X3_60 (Nat.le_of_ble_eq_true rfl) (Nat.le_of_ble_eq_true rfl) ⟨(Nat.le_of_ble_eq_true rfl), (Nat.le_of_ble_eq_true rfl)⟩ (by omega) (by omega) ?_
          obtain ⟨mn, hmn⟩ : ∃ z, z = (if r113 - s 16 i 3 < r100 then r113 - s 16 i 3 else r100) := ⟨_, rfl⟩
          rw [← hmn]
          have hmn2 : bt (-60) mn 1000050 := by rw [hmn]; split <;> omega
          refine v_istore dX3_nextTick_130 (Nat.le_of_ble_eq_true rfl) ?_
          refine v_iload dX3_nextTick_132 rfl ?_
          refine v_iload dX3_nextTick_134 rfl ?_
          refine v_iload dX3_nextTick_136 rfl ?_
          refine v_icmp_ne 145 dX3_nextTick_138 (by decide) (by omega) (by omega) (fun h138 => ?_) (fun h138 => ?_)
          · refine v_iconst dX3_nextTick_145 ?_
            refine v_iadd dX3_nextTick_146 ?_
            refine v_istore dX3_nextTick_147 (Nat.le_of_ble_eq_true rfl) ?_
            refine v_iload dX3_nextTick_149 rfl ?_
            refine v_iload dX3_nextTick_151 rfl ?_
            refine v_iload dX3_nextTick_153 rfl ?_
            refine v_icmp_ne 162 dX3_nextTick_155 (by decide) (by omega) (by omega) (fun h155 => ?_) (fun h155 => ?_)
            · refine v_iconst dX3_nextTick_162 ?_
              refine v_iadd dX3_nextTick_163 ?_
              refine v_istore dX3_nextTick_164 (Nat.le_of_ble_eq_true rfl) ?_
              refine v_iinc dX3_nextTick_166 rfl (Nat.le_of_ble_eq_true rfl) ?_
              refine v_goto 46 dX3_nextTick_169 (by decide) ?_
              refine wV.locs (lv' := [(0, .ref (fw 16 i)), (1, .int (gI f)), (2, .int (gI d)), (3, .int (gI w)), (4, .int (gI z)), (5, .int (gI _)), (6, .int (gI _)), (7, .int (gI _)), (8, .int (gI _))]) ⟨rfl, rfl, rfl, rfl, rfl, rfl, rfl, rfl, rfl, trivial⟩ (ih _ _ _ _ (by omega) (by omega) (by omega) (by omega) (by omega) (by omega))
            · refine v_iconst dX3_nextTick_158 ?_
              refine v_goto 163 dX3_nextTick_159 (by decide) ?_
              refine v_iadd dX3_nextTick_163 ?_
              refine v_istore dX3_nextTick_164 (Nat.le_of_ble_eq_true rfl) ?_
              refine v_iinc dX3_nextTick_166 rfl (Nat.le_of_ble_eq_true rfl) ?_
              refine v_goto 46 dX3_nextTick_169 (by decide) ?_
              refine wV.locs (lv' := [(0, .ref (fw 16 i)), (1, .int (gI f)), (2, .int (gI d)), (3, .int (gI w)), (4, .int (gI z)), (5, .int (gI _)), (6, .int (gI _)), (7, .int (gI _)), (8, .int (gI _))]) ⟨rfl, rfl, rfl, rfl, rfl, rfl, rfl, rfl, rfl, trivial⟩ (ih _ _ _ _ (by omega) (by omega) (by omega) (by omega) (by omega) (by omega))
          · refine v_iconst dX3_nextTick_141 ?_
            refine v_goto 146 dX3_nextTick_142 (by decide) ?_
            refine v_iadd dX3_nextTick_146 ?_
            refine v_istore dX3_nextTick_147 (Nat.le_of_ble_eq_true rfl) ?_
            refine v_iload dX3_nextTick_149 rfl ?_
            refine v_iload dX3_nextTick_151 rfl ?_
            refine v_iload dX3_nextTick_153 rfl ?_
            refine v_icmp_ne 162 dX3_nextTick_155 (by decide) (by omega) (by omega) (fun h155 => ?_) (fun h155 => ?_)
            · refine v_iconst dX3_nextTick_162 ?_
              refine v_iadd dX3_nextTick_163 ?_
              refine v_istore dX3_nextTick_164 (Nat.le_of_ble_eq_true rfl) ?_
              refine v_iinc dX3_nextTick_166 rfl (Nat.le_of_ble_eq_true rfl) ?_
              refine v_goto 46 dX3_nextTick_169 (by decide) ?_
              refine wV.locs (lv' := [(0, .ref (fw 16 i)), (1, .int (gI f)), (2, .int (gI d)), (3, .int (gI w)), (4, .int (gI z)), (5, .int (gI _)), (6, .int (gI _)), (7, .int (gI _)), (8, .int (gI _))]) ⟨rfl, rfl, rfl, rfl, rfl, rfl, rfl, rfl, rfl, trivial⟩ (ih _ _ _ _ (by omega) (by omega) (by omega) (by omega) (by omega) (by omega))
            · refine v_iconst dX3_nextTick_158 ?_
              refine v_goto 163 dX3_nextTick_159 (by decide) ?_
              refine v_iadd dX3_nextTick_163 ?_
              refine v_istore dX3_nextTick_164 (Nat.le_of_ble_eq_true rfl) ?_
              refine v_iinc dX3_nextTick_166 rfl (Nat.le_of_ble_eq_true rfl) ?_
              refine v_goto 46 dX3_nextTick_169 (by decide) ?_
              refine wV.locs (lv' := [(0, .ref (fw 16 i)), (1, .int (gI f)), (2, .int (gI d)), (3, .int (gI w)), (4, .int (gI z)), (5, .int (gI _)), (6, .int (gI _)), (7, .int (gI _)), (8, .int (gI _))]) ⟨rfl, rfl, rfl, rfl, rfl, rfl, rfl, rfl, rfl, trivial⟩ (ih _ _ _ _ (by omega) (by omega) (by omega) (by omega) (by omega) (by omega))
        · refine v_iload dX3_nextTick_89 rfl ?_
          exact v_iret dX3_nextTick_91 rfl ⟨(Nat.le_of_ble_eq_true rfl), (Nat.le_of_ble_eq_true rfl)⟩ (by omega) ⟨rfl, by omega⟩
set_option maxHeartbeats 4000000 in
set_option maxRecDepth 100000 in
theorem tX3_nextTick {G : gG} {fw : Nat → Nat → Nat} {s : sG} {M : wM} (hX : wX G fw s M) {i : Nat} (hi : i < 11) {f d w : Int} (hf : bt (-60) f 4000) (hd : bt (-60) d 4000) (hw : bt 0 w 1) : wT G qX3_nextTick 0 0 [.ref (fw 16 i), .int (gI f), .int (gI d), .int (gI w)] M (iP fun x M' => M' = M ∧ bt (-60) x 4000) := by
  refine wT.intro (by decide) (Nat.le_of_ble_eq_true rfl) (fun sz => ?_)
  have hq := hX.2.2.2.2.2.2.2.2.2.2 i hi
  have hL := hX.row (i := (s 16 i 1).toNat) (by omega)
  have hR := hX.row (i := (s 16 i 2).toNat) (by omega)
  have hg0 := hL.rg
  have hg1 := hR.rg
  refine v_aloadn dX3_nextTick_0 rfl ?_
  refine v_get dX3_nextTick_1 gf_X3_32 (hX.2.1 16 i hi) rfl ?_
  refine v_iloadn dX3_nextTick_4 rfl ?_
  refine v_icmp_ne 12 dX3_nextTick_5 (by decide) (by omega) (by omega) (fun h5 => ?_) (fun h5 => ?_)
  · refine v_iconst dX3_nextTick_12 ?_
    refine v_istore dX3_nextTick_13 (Nat.le_of_ble_eq_true rfl) ?_
    refine v_aloadn dX3_nextTick_15 rfl ?_
    refine v_get dX3_nextTick_16 gf_X3_18 (hX.2.1 16 i hi) rfl ?_
    refine v_iloadn dX3_nextTick_19 rfl ?_
    refine v_callV (tX4_latest hL (by omega)) lc_X3_46 ⟨(Nat.le_of_ble_eq_true rfl), (Nat.le_of_ble_eq_true rfl)⟩ dX3_nextTick_20 rfl rfl (Nat.le_of_ble_eq_true rfl) ⟨(Nat.le_of_ble_eq_true rfl), (Nat.le_of_ble_eq_true rfl)⟩ ⟨_, _, _, _, hL.1, rfl⟩ (kP fun r20 hr20 hp20 => ?_)
    have hq20 := hp20; unfold lateP at hq20
    refine v_istore dX3_nextTick_23 (Nat.le_of_ble_eq_true rfl) ?_
    refine v_aloadn dX3_nextTick_25 rfl ?_
    refine v_get dX3_nextTick_26 gf_X3_21 (hX.2.1 16 i hi) rfl ?_
    refine v_iloadn dX3_nextTick_29 rfl ?_
    refine v_aloadn dX3_nextTick_30 rfl ?_
    refine v_get dX3_nextTick_31 gf_X3_24 (hX.2.1 16 i hi) rfl ?_
    refine v_iadd dX3_nextTick_34 ?_
    refine v_callV (tX4_latest hR (by omega)) lc_X3_46 ⟨(Nat.le_of_ble_eq_true rfl), (Nat.le_of_ble_eq_true rfl)⟩ dX3_nextTick_35 rfl rfl (Nat.le_of_ble_eq_true rfl) ⟨(Nat.le_of_ble_eq_true rfl), (Nat.le_of_ble_eq_true rfl)⟩ ⟨_, _, _, _, hR.1, rfl⟩ (kP fun r35 hr35 hp35 => ?_)
    have hq35 := hp35; unfold lateP at hq35
    refine v_istore dX3_nextTick_38 (Nat.le_of_ble_eq_true rfl) ?_
    refine v_iloadn dX3_nextTick_40 rfl ?_
    refine v_istore dX3_nextTick_41 (Nat.le_of_ble_eq_true rfl) ?_
    refine v_iconst dX3_nextTick_43 ?_
    refine v_istore dX3_nextTick_44 (Nat.le_of_ble_eq_true rfl) ?_
    refine wV.locs (lv' := [(0, .ref (fw 16 i)), (1, .int (gI f)), (2, .int (gI d)), (3, .int (gI w)), (4, .int (gI _)), (5, .int (gI (r20))), (6, .int (gI (r35))), (7, .int (gI (f))), (8, .int (gI (0)))]) ⟨rfl, rfl, rfl, rfl, rfl, rfl, rfl, rfl, rfl, trivial⟩ (tX3_nextTick_loop hX hi hf hd hw (by omega) 110 _ _ _ _ (by omega) (by omega) (by omega) (by omega) (by omega) (by omega))
  · refine v_iconst dX3_nextTick_8 ?_
    refine v_goto 13 dX3_nextTick_9 (by decide) ?_
    refine v_istore dX3_nextTick_13 (Nat.le_of_ble_eq_true rfl) ?_
    refine v_aloadn dX3_nextTick_15 rfl ?_
    refine v_get dX3_nextTick_16 gf_X3_18 (hX.2.1 16 i hi) rfl ?_
    refine v_iloadn dX3_nextTick_19 rfl ?_
    refine v_callV (tX4_latest hL (by omega)) lc_X3_46 ⟨(Nat.le_of_ble_eq_true rfl), (Nat.le_of_ble_eq_true rfl)⟩ dX3_nextTick_20 rfl rfl (Nat.le_of_ble_eq_true rfl) ⟨(Nat.le_of_ble_eq_true rfl), (Nat.le_of_ble_eq_true rfl)⟩ ⟨_, _, _, _, hL.1, rfl⟩ (kP fun r20 hr20 hp20 => ?_)
    have hq20 := hp20; unfold lateP at hq20
    refine v_istore dX3_nextTick_23 (Nat.le_of_ble_eq_true rfl) ?_
    refine v_aloadn dX3_nextTick_25 rfl ?_
    refine v_get dX3_nextTick_26 gf_X3_21 (hX.2.1 16 i hi) rfl ?_
    refine v_iloadn dX3_nextTick_29 rfl ?_
    refine v_aloadn dX3_nextTick_30 rfl ?_
    refine v_get dX3_nextTick_31 gf_X3_24 (hX.2.1 16 i hi) rfl ?_
    refine v_iadd dX3_nextTick_34 ?_
    refine v_callV (tX4_latest hR (by omega)) lc_X3_46 ⟨(Nat.le_of_ble_eq_true rfl), (Nat.le_of_ble_eq_true rfl)⟩ dX3_nextTick_35 rfl rfl (Nat.le_of_ble_eq_true rfl) ⟨(Nat.le_of_ble_eq_true rfl), (Nat.le_of_ble_eq_true rfl)⟩ ⟨_, _, _, _, hR.1, rfl⟩ (kP fun r35 hr35 hp35 => ?_)
    have hq35 := hp35; unfold lateP at hq35
    refine v_istore dX3_nextTick_38 (Nat.le_of_ble_eq_true rfl) ?_
    refine v_iloadn dX3_nextTick_40 rfl ?_
    refine v_istore dX3_nextTick_41 (Nat.le_of_ble_eq_true rfl) ?_
    refine v_iconst dX3_nextTick_43 ?_
    refine v_istore dX3_nextTick_44 (Nat.le_of_ble_eq_true rfl) ?_
    refine wV.locs (lv' := [(0, .ref (fw 16 i)), (1, .int (gI f)), (2, .int (gI d)), (3, .int (gI w)), (4, .int (gI _)), (5, .int (gI (r20))), (6, .int (gI (r35))), (7, .int (gI (f))), (8, .int (gI (0)))]) ⟨rfl, rfl, rfl, rfl, rfl, rfl, rfl, rfl, rfl, trivial⟩ (tX3_nextTick_loop hX hi hf hd hw (by omega) 110 _ _ _ _ (by omega) (by omega) (by omega) (by omega) (by omega) (by omega))
end
section
set_option maxHeartbeats 4000000 in
set_option maxRecDepth 100000 in
theorem tX5_start_in {sz : Nat} {M0 : wM} {G : gG} {fw : Nat → Nat → Nat} {s : sG} {M : wM} (hX : wX G fw s M) {f d : Int} (hf : bt (-60) f 4000) (hd : bt (-60) d 4000) {u b : Int} {Post : Option Value → wM → Prop} (hk : ∀ z, bt (-60) z 4000 → wV G qX5_start 0 0 sz M0 0 0 58 [(0, .ref (fw 8 0)), (1, .int (gI f)), (2, .int (gI d)), (3, .int (gI z)), (4, .int (gI u)), (5, .int (gI b))] [] M Post) : ∀ (k : Nat) (z i : Int), 0 ≤ 12 - i → 12 - i < (k : Int) → (bt 0 i 11) → (bt (-60) z 4000) → wV G qX5_start 0 0 sz M0 0 0 24 [(0, .ref (fw 8 0)), (1, .int (gI f)), (2, .int (gI d)), (3, .int (gI z)), (4, .int (gI u)), (5, .int (gI b)), (6, .int (gI i))] [] M (Post) := by
  intro k
  induction k with
  | zero =>
    intros
    omega
  | succ k ih =>
    intro z i hmz hml h1 h2
    have h8 := hX.2.2.2.2.2.1
    refine v_iload dX5_start_24 rfl ?_
    refine v_aloadn dX5_start_26 rfl ?_
    refine v_get dX5_start_27 gf_X5_17 (hX.2.1 8 0 (by decide)) rfl ?_
    refine v_icmp_ge 58 dX5_start_30 (by decide) (by omega) (by omega) (fun h30 => ?_) (fun h30 => ?_)
    · refine wV.locs (lv' := [(0, .ref (fw 8 0)), (1, .int (gI f)), (2, .int (gI d)), (3, .int (gI z)), (4, .int (gI u)), (5, .int (gI b))]) ⟨rfl, rfl, rfl, rfl, rfl, rfl, trivial⟩ (hk _ (by omega))
    · refine v_iloadn dX5_start_33 rfl ?_
      refine v_iloadn dX5_start_34 rfl ?_
      refine v_icmp_ge 58 dX5_start_35 (by decide) (by omega) (by omega) (fun h35 => ?_) (fun h35 => ?_)
      · refine wV.locs (lv' := [(0, .ref (fw 8 0)), (1, .int (gI f)), (2, .int (gI d)), (3, .int (gI z)), (4, .int (gI u)), (5, .int (gI b))]) ⟨rfl, rfl, rfl, rfl, rfl, rfl, trivial⟩ (hk _ (by omega))
      · refine v_aloadn dX5_start_38 rfl ?_
        refine v_get dX5_start_39 gf_X5_11 (hX.2.1 8 0 (by decide)) rfl ?_
        refine v_iload dX5_start_42 rfl ?_
        refine v_aald (cA := G.2.2 0) (Cn := "WavePairs$Pair") dX5_start_44 (hX.2.1 9 0 (by decide)) (by simp) (by omega) (by omega) (by decide) ?_
        refine v_iloadn dX5_start_45 rfl ?_
        refine v_iloadn dX5_start_46 rfl ?_
        refine v_iconst dX5_start_47 ?_
        refine v_callV (tX3_nextTick hX (by omega) (by omega) (by omega) (by omega)) lc_X5_37 ⟨(Nat.le_of_ble_eq_true rfl), (Nat.le_of_ble_eq_true rfl)⟩ dX5_start_48 rfl rfl (Nat.le_of_ble_eq_true rfl) ⟨(Nat.le_of_ble_eq_true rfl), (Nat.le_of_ble_eq_true rfl)⟩ ⟨_, _, _, _, hX.2.1 16 _ (by simp [cntX]; omega), rfl⟩ (kP fun r48 hr48 hp48 => ?_)
        refine v_istoren dX5_start_51 (Nat.le_of_ble_eq_true rfl) ?_
        refine v_iinc dX5_start_52 rfl (Nat.le_of_ble_eq_true rfl) ?_
        refine v_goto 24 dX5_start_55 (by decide) ?_
        refine wV.locs (lv' := [(0, .ref (fw 8 0)), (1, .int (gI f)), (2, .int (gI d)), (3, .int (gI _)), (4, .int (gI u)), (5, .int (gI b)), (6, .int (gI _))]) ⟨rfl, rfl, rfl, rfl, rfl, rfl, rfl, trivial⟩ (ih _ _ (by omega) (by omega) (by omega) (by omega))
set_option maxHeartbeats 4000000 in
set_option maxRecDepth 100000 in
theorem tX5_start_out {sz : Nat} {M0 : wM} {G : gG} {fw : Nat → Nat → Nat} {s : sG} {M : wM} (hX : wX G fw s M) {f d : Int} (hf : bt (-60) f 4000) (hd : bt (-60) d 4000) : ∀ (k : Nat) (z u : Int), 0 ≤ 4002 - u → 4002 - u < (k : Int) → (bt 0 u 4001) → (bt (-60) z 4000) → wV G qX5_start 0 0 sz M0 0 0 5 [(0, .ref (fw 8 0)), (1, .int (gI f)), (2, .int (gI d)), (3, .int (gI z)), (4, .int (gI u))] [] M (iP fun x M' => M' = M ∧ bt (-60) x 4000) := by
  intro k
  induction k with
  | zero =>
    intros
    omega
  | succ k ih =>
    intro z u hmz hml h1 h2
    have h8 := hX.2.2.2.2.2.1
    refine v_iload dX5_start_5 rfl ?_
    refine v_sipush dX5_start_7 (by decide) ?_
    refine v_icmp_gt 72 dX5_start_10 (by decide) (by omega) (by omega) (fun h10 => ?_) (fun h10 => ?_)
    · refine v_iloadn dX5_start_72 rfl ?_
      exact v_iret dX5_start_73 rfl ⟨(Nat.le_of_ble_eq_true rfl), (Nat.le_of_ble_eq_true rfl)⟩ (by omega) ⟨rfl, by omega⟩
    · refine v_iloadn dX5_start_13 rfl ?_
      refine v_iloadn dX5_start_14 rfl ?_
      refine v_icmp_ge 72 dX5_start_15 (by decide) (by omega) (by omega) (fun h15 => ?_) (fun h15 => ?_)
      · refine v_iloadn dX5_start_72 rfl ?_
        exact v_iret dX5_start_73 rfl ⟨(Nat.le_of_ble_eq_true rfl), (Nat.le_of_ble_eq_true rfl)⟩ (by omega) ⟨rfl, by omega⟩
      · refine v_iloadn dX5_start_18 rfl ?_
        refine v_istore dX5_start_19 (Nat.le_of_ble_eq_true rfl) ?_
        refine v_iconst dX5_start_21 ?_
        refine v_istore dX5_start_22 (Nat.le_of_ble_eq_true rfl) ?_
        refine wV.locs (lv' := [(0, .ref (fw 8 0)), (1, .int (gI f)), (2, .int (gI d)), (3, .int (gI z)), (4, .int (gI u)), (5, .int (gI z)), (6, .int (gI 0))]) ⟨rfl, rfl, rfl, rfl, rfl, rfl, rfl, trivial⟩ (tX5_start_in hX hf hd (fun y hy => ?_) 20 z 0 (by omega) (by omega) (by omega) (by omega))
        refine v_iloadn dX5_start_58 rfl ?_
        refine v_iload dX5_start_59 rfl ?_
        refine v_icmp_ne 66 dX5_start_61 (by decide) (by omega) (by omega) (fun h61 => ?_) (fun h61 => ?_)
        · refine v_iinc dX5_start_66 rfl (Nat.le_of_ble_eq_true rfl) ?_
          refine v_goto 5 dX5_start_69 (by decide) ?_
          refine wV.locs (lv' := [(0, .ref (fw 8 0)), (1, .int (gI f)), (2, .int (gI d)), (3, .int (gI _)), (4, .int (gI _))]) ⟨rfl, rfl, rfl, rfl, rfl, trivial⟩ (ih _ _ (by omega) (by omega) (by omega) (by omega))
        · refine v_iloadn dX5_start_64 rfl ?_
          exact v_iret dX5_start_65 rfl ⟨(Nat.le_of_ble_eq_true rfl), (Nat.le_of_ble_eq_true rfl)⟩ (by omega) ⟨rfl, by omega⟩
set_option maxHeartbeats 4000000 in
set_option maxRecDepth 100000 in
theorem tX5_start {G : gG} {fw : Nat → Nat → Nat} {s : sG} {M : wM} (hX : wX G fw s M) {f d : Int} (hf : bt (-60) f 4000) (hd : bt (-60) d 4000) : wT G qX5_start 0 0 [.ref (fw 8 0), .int (gI f), .int (gI d)] M (iP fun x M' => M' = M ∧ bt (-60) x 4000) := by
  refine wT.intro (by decide) (Nat.le_of_ble_eq_true rfl) (fun sz => ?_)
  refine v_iloadn dX5_start_0 rfl ?_
  refine v_istoren dX5_start_1 (Nat.le_of_ble_eq_true rfl) ?_
  refine v_iconst dX5_start_2 ?_
  refine v_istore dX5_start_3 (Nat.le_of_ble_eq_true rfl) ?_
  refine wV.locs (lv' := [(0, .ref (fw 8 0)), (1, .int (gI f)), (2, .int (gI d)), (3, .int (gI (f))), (4, .int (gI (0)))]) ⟨rfl, rfl, rfl, rfl, rfl, trivial⟩ (tX5_start_out hX hf hd 4010 _ _ (by omega) (by omega) (by omega) (by omega))
set_option maxHeartbeats 4000000 in
set_option maxRecDepth 100000 in
theorem tX5_stop_loop {sz : Nat} {M0 : wM} {G : gG} {fw : Nat → Nat → Nat} {s : sG} {M : wM} (hX : wX G fw s M) {f d : Int} (hf : bt (-60) f 4000) (hd : bt (-60) d 4000) : ∀ (k : Nat) (z i : Int), 0 ≤ 12 - i → 12 - i < (k : Int) → (bt 0 i 11) → (bt (-60) z 4000) → wV G qX5_stop 0 0 sz M0 0 0 5 [(0, .ref (fw 8 0)), (1, .int (gI f)), (2, .int (gI d)), (3, .int (gI z)), (4, .int (gI i))] [] M (iP fun x M' => M' = M ∧ bt (-60) x 4000) := by
  intro k
  induction k with
  | zero =>
    intros
    omega
  | succ k ih =>
    intro z i hmz hml h1 h2
    have h8 := hX.2.2.2.2.2.1
    refine v_iload dX5_stop_5 rfl ?_
    refine v_aloadn dX5_stop_7 rfl ?_
    refine v_get dX5_stop_8 gf_X5_17 (hX.2.1 8 0 (by decide)) rfl ?_
    refine v_icmp_ge 34 dX5_stop_11 (by decide) (by omega) (by omega) (fun h11 => ?_) (fun h11 => ?_)
    · refine v_iloadn dX5_stop_34 rfl ?_
      exact v_iret dX5_stop_35 rfl ⟨(Nat.le_of_ble_eq_true rfl), (Nat.le_of_ble_eq_true rfl)⟩ (by omega) ⟨rfl, by omega⟩
    · refine v_aloadn dX5_stop_14 rfl ?_
      refine v_get dX5_stop_15 gf_X5_11 (hX.2.1 8 0 (by decide)) rfl ?_
      refine v_iload dX5_stop_18 rfl ?_
      refine v_aald (cA := G.2.2 0) (Cn := "WavePairs$Pair") dX5_stop_20 (hX.2.1 9 0 (by decide)) (by simp) (by omega) (by omega) (by decide) ?_
      refine v_iloadn dX5_stop_21 rfl ?_
      refine v_iloadn dX5_stop_22 rfl ?_
      refine v_iconst dX5_stop_23 ?_
      refine v_callV (tX3_nextTick hX (by omega) (by omega) (by omega) (by omega)) lc_X5_37 ⟨(Nat.le_of_ble_eq_true rfl), (Nat.le_of_ble_eq_true rfl)⟩ dX5_stop_24 rfl rfl (Nat.le_of_ble_eq_true rfl) ⟨(Nat.le_of_ble_eq_true rfl), (Nat.le_of_ble_eq_true rfl)⟩ ⟨_, _, _, _, hX.2.1 16 _ (by simp [cntX]; omega), rfl⟩ (kP fun r24 hr24 hp24 => ?_)
      refine v_istoren dX5_stop_27 (Nat.le_of_ble_eq_true rfl) ?_
      refine v_iinc dX5_stop_28 rfl (Nat.le_of_ble_eq_true rfl) ?_
      refine v_goto 5 dX5_stop_31 (by decide) ?_
      refine wV.locs (lv' := [(0, .ref (fw 8 0)), (1, .int (gI f)), (2, .int (gI d)), (3, .int (gI _)), (4, .int (gI _))]) ⟨rfl, rfl, rfl, rfl, rfl, trivial⟩ (ih _ _ (by omega) (by omega) (by omega) (by omega))
set_option maxHeartbeats 4000000 in
set_option maxRecDepth 100000 in
theorem tX5_stop {G : gG} {fw : Nat → Nat → Nat} {s : sG} {M : wM} (hX : wX G fw s M) {f d : Int} (hf : bt (-60) f 4000) (hd : bt (-60) d 4000) : wT G qX5_stop 0 0 [.ref (fw 8 0), .int (gI f), .int (gI d)] M (iP fun x M' => M' = M ∧ bt (-60) x 4000) := by
  refine wT.intro (by decide) (Nat.le_of_ble_eq_true rfl) (fun sz => ?_)
  refine v_iloadn dX5_stop_0 rfl ?_
  refine v_istoren dX5_stop_1 (Nat.le_of_ble_eq_true rfl) ?_
  refine v_iconst dX5_stop_2 ?_
  refine v_istore dX5_stop_3 (Nat.le_of_ble_eq_true rfl) ?_
  refine wV.locs (lv' := [(0, .ref (fw 8 0)), (1, .int (gI f)), (2, .int (gI d)), (3, .int (gI (d))), (4, .int (gI (0)))]) ⟨rfl, rfl, rfl, rfl, rfl, trivial⟩ (tX5_stop_loop hX hf hd 20 _ _ (by omega) (by omega) (by omega) (by omega))
end
section
set_option maxHeartbeats 4000000 in
set_option maxRecDepth 100000 in
theorem tX5_find_loop {sz : Nat} {M0 : wM} {G : gG} {fw : Nat → Nat → Nat} {si : sG} {Mi : wM} {n l d : Int} (hn : rng n) (hl : rng l) (hd : bt (-60) d 4000) : ∀ (k : Nat) (s : sG) (M : wM) (u : Int), 0 ≤ 4002 - u → 4002 - u < (k : Int) → (wX G fw s M) → (wO cntX fw Mi M) → (∀ k, k ≠ 8 → s k = si k) → (bt 0 u 4001 ∧ bt 0 (s 8 0 2) u ∧ bt (-60) (s 8 0 3) 4000 ∧ s 8 0 1 = si 8 0 1) → wV G qX5_find 0 0 sz M0 0 0 18 [(0, .ref (fw 8 0)), (1, .int (gI n)), (2, .int (gI l)), (3, .int (gI d)), (4, .int (gI u))] [] M (iP fun x M' => ∃ s', wX G fw s' M' ∧ wO cntX fw Mi M' ∧ (∀ k, k ≠ 8 → s' k = si k) ∧ s' 8 0 1 = si 8 0 1 ∧ bt 0 (s' 8 0 2) 4001 ∧ bt (-60) (s' 8 0 3) 4000 ∧ (x = 1 → bt (-60) (s' 8 0 4) 4000) ∧ (x = 0 ∨ x = 1)) := by
  intro k
  induction k with
  | zero =>
    intros
    omega
  | succ k ih =>
    intro s M u hmz hml hX hO hE h1
    obtain ⟨hJ, hH, hI⟩ := id hX
    have h8 := hX.2.2.2.2.2.1
    refine v_iload dX5_find_18 rfl ?_
    refine v_sipush dX5_find_20 (by decide) ?_
    refine v_icmp_gt 99 dX5_find_23 (by decide) (by omega) (by omega) (fun h23 => ?_) (fun h23 => ?_)
    · refine v_iconst dX5_find_99 ?_
      exact v_zret dX5_find_100 rfl ⟨(Nat.le_of_ble_eq_true rfl), (Nat.le_of_ble_eq_true rfl)⟩ (by omega) ⟨s, hX, hO, hE, by omega, by omega, by omega, by omega, by omega⟩
    · refine v_aloadn dX5_find_26 rfl ?_
      refine v_get dX5_find_27 gf_X5_24 (hH 8 0 (by decide)) rfl ?_
      refine v_iloadn dX5_find_30 rfl ?_
      refine v_icmp_ge 99 dX5_find_31 (by decide) (by omega) (by omega) (fun h31 => ?_) (fun h31 => ?_)
      · refine v_iconst dX5_find_99 ?_
        exact v_zret dX5_find_100 rfl ⟨(Nat.le_of_ble_eq_true rfl), (Nat.le_of_ble_eq_true rfl)⟩ (by omega) ⟨s, hX, hO, hE, by omega, by omega, by omega, by omega, by omega⟩
      · refine v_aloadn dX5_find_34 rfl ?_
        refine v_aloadn dX5_find_35 rfl ?_
        refine v_aloadn dX5_find_36 rfl ?_
        refine v_get dX5_find_37 gf_X5_24 (hH 8 0 (by decide)) rfl ?_
        refine v_iloadn dX5_find_40 rfl ?_
        refine v_callV (tX5_stop hX (by omega) (by omega)) lc_X5_44 ⟨(Nat.le_of_ble_eq_true rfl), (Nat.le_of_ble_eq_true rfl)⟩ dX5_find_41 rfl rfl (Nat.le_of_ble_eq_true rfl) ⟨(Nat.le_of_ble_eq_true rfl), (Nat.le_of_ble_eq_true rfl)⟩ ⟨_, _, _, _, hH 8 0 (by decide), rfl⟩ (kP fun r41 hr41 hp41 => ?_)
        refine v_put dX5_find_44 pf_X5_27 (hH 8 0 (by decide)) rfl rfl (Nat.le_of_ble_eq_true rfl) ?_
        generalize hMe44 : wup _ _ _ = M44
        have hO : wO cntX fw Mi M44 := by rw [← hMe44]; exact hO.up (k := 8) (i := 0) (by decide)
        obtain ⟨s44, hs44⟩ : ∃ z, z = ups s 8 0 (4) (r41) := ⟨_, rfl⟩
        have hH : wH cntX (cellX G fw) fw s44 M44 := by rw [← hMe44, hs44]; exact wH.up hJ hH (k := 8) (i := 0) (4) (r41) (by decide) rfl
        have hX : wX G fw s44 M44 := ⟨hJ, hH, invX_p hI (fun k hk => by rw [hs44]; exact ups_kf _ hk) (by rw [hs44]; simp [ups_at, upz] <;> omega)⟩
        obtain ⟨hJ, hH, hI⟩ := id hX
        have h8 := hX.2.2.2.2.2.1
        have hE : ∀ k, k ≠ 8 → s44 k = si k := fun k hk => (show s44 k = s k by rw [hs44, ups_kf _ hk]).trans (hE k hk)
        have e44_1 : s44 8 0 1 = s 8 0 1 := by rw [hs44, ups_at]; rfl
        have e44_2 : s44 8 0 2 = s 8 0 2 := by rw [hs44, ups_at]; rfl
        have e44_3 : s44 8 0 3 = s 8 0 3 := by rw [hs44, ups_at]; rfl
        have e44_4 : s44 8 0 4 = (r41) := by rw [hs44, ups_at]; rfl
        refine v_aloadn dX5_find_47 rfl ?_
        refine v_get dX5_find_48 gf_X5_27 (hH 8 0 (by decide)) rfl ?_
        refine v_aloadn dX5_find_51 rfl ?_
        refine v_get dX5_find_52 gf_X5_24 (hH 8 0 (by decide)) rfl ?_
        refine v_isub dX5_find_55 ?_
        refine v_iloadn dX5_find_56 rfl ?_
        refine v_icmp_lt 80 dX5_find_57 (by decide) (by omega) (by omega) (fun h57 => ?_) (fun h57 => ?_)
        · refine v_aloadn dX5_find_80 rfl ?_
          refine v_aloadn dX5_find_81 rfl ?_
          refine v_aloadn dX5_find_82 rfl ?_
          refine v_get dX5_find_83 gf_X5_27 (hH 8 0 (by decide)) rfl ?_
          refine v_iloadn dX5_find_86 rfl ?_
          refine v_callV (tX5_start hX (by omega) (by omega)) lc_X5_41 ⟨(Nat.le_of_ble_eq_true rfl), (Nat.le_of_ble_eq_true rfl)⟩ dX5_find_87 rfl rfl (Nat.le_of_ble_eq_true rfl) ⟨(Nat.le_of_ble_eq_true rfl), (Nat.le_of_ble_eq_true rfl)⟩ ⟨_, _, _, _, hH 8 0 (by decide), rfl⟩ (kP fun r87 hr87 hp87 => ?_)
          refine v_put dX5_find_90 pf_X5_24 (hH 8 0 (by decide)) rfl rfl (Nat.le_of_ble_eq_true rfl) ?_
          generalize hMe90 : wup _ _ _ = M90
          have hO : wO cntX fw Mi M90 := by rw [← hMe90]; exact hO.up (k := 8) (i := 0) (by decide)
          obtain ⟨s90, hs90⟩ : ∃ z, z = ups s44 8 0 (3) (r87) := ⟨_, rfl⟩
          have hH : wH cntX (cellX G fw) fw s90 M90 := by rw [← hMe90, hs90]; exact wH.up hJ hH (k := 8) (i := 0) (3) (r87) (by decide) rfl
          have hX : wX G fw s90 M90 := ⟨hJ, hH, invX_p hI (fun k hk => by rw [hs90]; exact ups_kf _ hk) (by rw [hs90]; simp [ups_at, upz] <;> omega)⟩
          obtain ⟨hJ, hH, hI⟩ := id hX
          have h8 := hX.2.2.2.2.2.1
          have hE : ∀ k, k ≠ 8 → s90 k = si k := fun k hk => (show s90 k = s44 k by rw [hs90, ups_kf _ hk]).trans (hE k hk)
          have e90_1 : s90 8 0 1 = s44 8 0 1 := by rw [hs90, ups_at]; rfl
          have e90_2 : s90 8 0 2 = s44 8 0 2 := by rw [hs90, ups_at]; rfl
          have e90_3 : s90 8 0 3 = (r87) := by rw [hs90, ups_at]; rfl
          have e90_4 : s90 8 0 4 = s44 8 0 4 := by rw [hs90, ups_at]; rfl
          refine v_iinc dX5_find_93 rfl (Nat.le_of_ble_eq_true rfl) ?_
          refine v_goto 18 dX5_find_96 (by decide) ?_
          refine wV.locs (lv' := [(0, .ref (fw 8 0)), (1, .int (gI n)), (2, .int (gI l)), (3, .int (gI d)), (4, .int (gI (_)))]) ⟨rfl, rfl, rfl, rfl, rfl, trivial⟩ (ih _ _ _ (by omega) (by omega) hX hO hE (by omega))
        · refine v_aloadn dX5_find_60 rfl ?_
          refine v_get dX5_find_61 gf_X5_21 (hH 8 0 (by decide)) rfl ?_
          refine v_iloadn dX5_find_64 rfl ?_
          refine v_icmp_ne 70 dX5_find_65 (by decide) (by omega) (by omega) (fun h65 => ?_) (fun h65 => ?_)
          · refine v_aloadn dX5_find_70 rfl ?_
            refine v_dup dX5_find_71 rfl ?_
            refine v_get dX5_find_72 gf_X5_21 (hH 8 0 (by decide)) rfl ?_
            refine v_iconst dX5_find_75 ?_
            refine v_iadd dX5_find_76 ?_
            refine v_put dX5_find_77 pf_X5_21 (hH 8 0 (by decide)) rfl rfl (Nat.le_of_ble_eq_true rfl) ?_
            generalize hMe77 : wup _ _ _ = M77
            have hO : wO cntX fw Mi M77 := by rw [← hMe77]; exact hO.up (k := 8) (i := 0) (by decide)
            obtain ⟨s77, hs77⟩ : ∃ z, z = ups s44 8 0 (2) (s44 8 0 2 + 1) := ⟨_, rfl⟩
            have hH : wH cntX (cellX G fw) fw s77 M77 := by rw [← hMe77, hs77]; exact wH.up hJ hH (k := 8) (i := 0) (2) (s44 8 0 2 + 1) (by decide) rfl
            have hX : wX G fw s77 M77 := ⟨hJ, hH, invX_p hI (fun k hk => by rw [hs77]; exact ups_kf _ hk) (by rw [hs77]; simp [ups_at, upz] <;> omega)⟩
            obtain ⟨hJ, hH, hI⟩ := id hX
            have h8 := hX.2.2.2.2.2.1
            have hE : ∀ k, k ≠ 8 → s77 k = si k := fun k hk => (show s77 k = s44 k by rw [hs77, ups_kf _ hk]).trans (hE k hk)
            have e77_1 : s77 8 0 1 = s44 8 0 1 := by rw [hs77, ups_at]; rfl
            have e77_2 : s77 8 0 2 = (s44 8 0 2 + 1) := by rw [hs77, ups_at]; rfl
            have e77_3 : s77 8 0 3 = s44 8 0 3 := by rw [hs77, ups_at]; rfl
            have e77_4 : s77 8 0 4 = s44 8 0 4 := by rw [hs77, ups_at]; rfl
            refine v_aloadn dX5_find_80 rfl ?_
            refine v_aloadn dX5_find_81 rfl ?_
            refine v_aloadn dX5_find_82 rfl ?_
            refine v_get dX5_find_83 gf_X5_27 (hH 8 0 (by decide)) rfl ?_
            refine v_iloadn dX5_find_86 rfl ?_
            refine v_callV (tX5_start hX (by omega) (by omega)) lc_X5_41 ⟨(Nat.le_of_ble_eq_true rfl), (Nat.le_of_ble_eq_true rfl)⟩ dX5_find_87 rfl rfl (Nat.le_of_ble_eq_true rfl) ⟨(Nat.le_of_ble_eq_true rfl), (Nat.le_of_ble_eq_true rfl)⟩ ⟨_, _, _, _, hH 8 0 (by decide), rfl⟩ (kP fun r87 hr87 hp87 => ?_)
            refine v_put dX5_find_90 pf_X5_24 (hH 8 0 (by decide)) rfl rfl (Nat.le_of_ble_eq_true rfl) ?_
            generalize hMe90 : wup _ _ _ = M90
            have hO : wO cntX fw Mi M90 := by rw [← hMe90]; exact hO.up (k := 8) (i := 0) (by decide)
            obtain ⟨s90, hs90⟩ : ∃ z, z = ups s77 8 0 (3) (r87) := ⟨_, rfl⟩
            have hH : wH cntX (cellX G fw) fw s90 M90 := by rw [← hMe90, hs90]; exact wH.up hJ hH (k := 8) (i := 0) (3) (r87) (by decide) rfl
            have hX : wX G fw s90 M90 := ⟨hJ, hH, invX_p hI (fun k hk => by rw [hs90]; exact ups_kf _ hk) (by rw [hs90]; simp [ups_at, upz] <;> omega)⟩
            obtain ⟨hJ, hH, hI⟩ := id hX
            have h8 := hX.2.2.2.2.2.1
            have hE : ∀ k, k ≠ 8 → s90 k = si k := fun k hk => (show s90 k = s77 k by rw [hs90, ups_kf _ hk]).trans (hE k hk)
            have e90_1 : s90 8 0 1 = s77 8 0 1 := by rw [hs90, ups_at]; rfl
            have e90_2 : s90 8 0 2 = s77 8 0 2 := by rw [hs90, ups_at]; rfl
            have e90_3 : s90 8 0 3 = (r87) := by rw [hs90, ups_at]; rfl
            have e90_4 : s90 8 0 4 = s77 8 0 4 := by rw [hs90, ups_at]; rfl
            refine v_iinc dX5_find_93 rfl (Nat.le_of_ble_eq_true rfl) ?_
            refine v_goto 18 dX5_find_96 (by decide) ?_
            refine wV.locs (lv' := [(0, .ref (fw 8 0)), (1, .int (gI n)), (2, .int (gI l)), (3, .int (gI d)), (4, .int (gI (_)))]) ⟨rfl, rfl, rfl, rfl, rfl, trivial⟩ (ih _ _ _ (by omega) (by omega) hX hO hE (by omega))
          · refine v_iconst dX5_find_68 ?_
            exact v_zret dX5_find_69 rfl ⟨(Nat.le_of_ble_eq_true rfl), (Nat.le_of_ble_eq_true rfl)⟩ (by omega) ⟨s44, hX, hO, hE, by omega, by omega, by omega, by omega, by omega⟩
set_option maxHeartbeats 4000000 in
set_option maxRecDepth 100000 in
theorem tX5_find {G : gG} {fw : Nat → Nat → Nat} {si : sG} {Mi : wM} (hX : wX G fw si Mi) {n l d : Int} (hn : rng n) (hl : rng l) (hd : bt (-60) d 4000) : wT G qX5_find 0 0 [.ref (fw 8 0), .int (gI n), .int (gI l), .int (gI d)] Mi (iP fun x M' => ∃ s', wX G fw s' M' ∧ wO cntX fw Mi M' ∧ (∀ k, k ≠ 8 → s' k = si k) ∧ s' 8 0 1 = si 8 0 1 ∧ bt 0 (s' 8 0 2) 4001 ∧ bt (-60) (s' 8 0 3) 4000 ∧ (x = 1 → bt (-60) (s' 8 0 4) 4000) ∧ (x = 0 ∨ x = 1)) := by
  refine wT.intro (by decide) (Nat.le_of_ble_eq_true rfl) (fun sz => ?_)
  obtain ⟨hJ, hH, hI⟩ := id hX
  have h8 := hX.2.2.2.2.2.1
  have hO : wO cntX fw Mi Mi := wO.rf
  have hE : ∀ k, k ≠ 8 → si k = si k := fun _ _ => rfl
  refine v_aloadn dX5_find_0 rfl ?_
  refine v_iconst dX5_find_1 ?_
  refine v_put dX5_find_2 pf_X5_21 (hH 8 0 (by decide)) rfl rfl (Nat.le_of_ble_eq_true rfl) ?_
  generalize hMe2 : wup _ _ _ = M2
  have hO : wO cntX fw Mi M2 := by rw [← hMe2]; exact hO.up (k := 8) (i := 0) (by decide)
  obtain ⟨s2, hs2⟩ : ∃ z, z = ups si 8 0 (2) (0) := ⟨_, rfl⟩
  have hH : wH cntX (cellX G fw) fw s2 M2 := by rw [← hMe2, hs2]; exact wH.up hJ hH (k := 8) (i := 0) (2) (0) (by decide) rfl
  have hX : wX G fw s2 M2 := ⟨hJ, hH, invX_p hI (fun k hk => by rw [hs2]; exact ups_kf _ hk) (by rw [hs2]; simp [ups_at, upz] <;> omega)⟩
  obtain ⟨hJ, hH, hI⟩ := id hX
  have h8 := hX.2.2.2.2.2.1
  have hE : ∀ k, k ≠ 8 → s2 k = si k := fun k hk => (show s2 k = si k by rw [hs2, ups_kf _ hk]).trans (hE k hk)
  have e2_1 : s2 8 0 1 = si 8 0 1 := by rw [hs2, ups_at]; rfl
  have e2_2 : s2 8 0 2 = (0) := by rw [hs2, ups_at]; rfl
  have e2_3 : s2 8 0 3 = si 8 0 3 := by rw [hs2, ups_at]; rfl
  have e2_4 : s2 8 0 4 = si 8 0 4 := by rw [hs2, ups_at]; rfl
  refine v_aloadn dX5_find_5 rfl ?_
  refine v_aloadn dX5_find_6 rfl ?_
  refine v_iconst dX5_find_7 ?_
  refine v_iloadn dX5_find_8 rfl ?_
  refine v_callV (tX5_start hX (by omega) (by omega)) lc_X5_41 ⟨(Nat.le_of_ble_eq_true rfl), (Nat.le_of_ble_eq_true rfl)⟩ dX5_find_9 rfl rfl (Nat.le_of_ble_eq_true rfl) ⟨(Nat.le_of_ble_eq_true rfl), (Nat.le_of_ble_eq_true rfl)⟩ ⟨_, _, _, _, hH 8 0 (by decide), rfl⟩ (kP fun r9 hr9 hp9 => ?_)
  refine v_put dX5_find_12 pf_X5_24 (hH 8 0 (by decide)) rfl rfl (Nat.le_of_ble_eq_true rfl) ?_
  generalize hMe12 : wup _ _ _ = M12
  have hO : wO cntX fw Mi M12 := by rw [← hMe12]; exact hO.up (k := 8) (i := 0) (by decide)
  obtain ⟨s12, hs12⟩ : ∃ z, z = ups s2 8 0 (3) (r9) := ⟨_, rfl⟩
  have hH : wH cntX (cellX G fw) fw s12 M12 := by rw [← hMe12, hs12]; exact wH.up hJ hH (k := 8) (i := 0) (3) (r9) (by decide) rfl
  have hX : wX G fw s12 M12 := ⟨hJ, hH, invX_p hI (fun k hk => by rw [hs12]; exact ups_kf _ hk) (by rw [hs12]; simp [ups_at, upz] <;> omega)⟩
  obtain ⟨hJ, hH, hI⟩ := id hX
  have h8 := hX.2.2.2.2.2.1
  have hE : ∀ k, k ≠ 8 → s12 k = si k := fun k hk => (show s12 k = s2 k by rw [hs12, ups_kf _ hk]).trans (hE k hk)
  have e12_1 : s12 8 0 1 = s2 8 0 1 := by rw [hs12, ups_at]; rfl
  have e12_2 : s12 8 0 2 = s2 8 0 2 := by rw [hs12, ups_at]; rfl
  have e12_3 : s12 8 0 3 = (r9) := by rw [hs12, ups_at]; rfl
  have e12_4 : s12 8 0 4 = s2 8 0 4 := by rw [hs12, ups_at]; rfl
  refine v_iconst dX5_find_15 ?_
  refine v_istore dX5_find_16 (Nat.le_of_ble_eq_true rfl) ?_
  refine wV.locs (lv' := [(0, .ref (fw 8 0)), (1, .int (gI n)), (2, .int (gI l)), (3, .int (gI d)), (4, .int (gI (0)))]) ⟨rfl, rfl, rfl, rfl, rfl, trivial⟩ (tX5_find_loop hn hl hd 4010 _ _ _ (by omega) (by omega) hX hO hE (by omega))
set_option maxHeartbeats 4000000 in
set_option maxRecDepth 100000 in
theorem tX5_howMany {G : gG} {fw : Nat → Nat → Nat} {s : sG} {M : wM} (hX : wX G fw s M) {l d : Int} (hl : rng l) (hd : bt (-60) d 4000) : wT G qX5_howMany 0 0 [.ref (fw 8 0), .int (gI l), .int (gI d)] M (iP fun x M' => bt 0 x 4001 ∧ ∃ s', wX G fw s' M' ∧ wO cntX fw M M' ∧ keepX s s') := by
  refine wT.intro (by decide) (Nat.le_of_ble_eq_true rfl) (fun sz => ?_)
  refine v_aloadn dX5_howMany_0 rfl ?_
  refine v_iconst dX5_howMany_1 ?_
  refine v_iloadn dX5_howMany_2 rfl ?_
  refine v_iloadn dX5_howMany_3 rfl ?_
  refine v_callV (tX5_find hX (by omega) hl hd) lc_X5_47 ⟨(Nat.le_of_ble_eq_true rfl), (Nat.le_of_ble_eq_true rfl)⟩ dX5_howMany_4 rfl rfl (Nat.le_of_ble_eq_true rfl) ⟨(Nat.le_of_ble_eq_true rfl), (Nat.le_of_ble_eq_true rfl)⟩ ⟨_, _, _, _, hX.2.1 8 0 (by decide), rfl⟩ (kI fun r4 M4 hr4 hp4 => ?_)
  obtain ⟨s4, hX4, hO4, hE4, e1, e2, e3, e4, e5⟩ := hp4
  refine v_pop dX5_howMany_7 rfl ?_
  refine v_aloadn dX5_howMany_8 rfl ?_
  refine v_get dX5_howMany_9 gf_X5_21 (hX4.2.1 8 0 (by decide)) rfl ?_
  exact v_iret dX5_howMany_12 rfl ⟨(Nat.le_of_ble_eq_true rfl), (Nat.le_of_ble_eq_true rfl)⟩ (by omega) ⟨by omega, s4, hX4, hO4, fun k i' hq => by rw [hE4 k (fun z => hq (Or.inl z))]⟩
set_option maxHeartbeats 4000000 in
set_option maxRecDepth 100000 in
theorem tX5_seen {G : gG} {fw : Nat → Nat → Nat} {s : sG} {M : wM} (hX : wX G fw s M) : wT G qX5_seen 0 0 [.ref (fw 8 0)] M (iP fun x M' => M' = M ∧ x = s 8 0 2) := by
  refine wT.intro (by decide) (Nat.le_of_ble_eq_true rfl) (fun sz => ?_)
  have h8 := hX.2.2.2.2.2.1
  refine v_aloadn dX5_seen_0 rfl ?_
  refine v_get dX5_seen_1 gf_X5_21 (hX.2.1 8 0 (by decide)) rfl ?_
  exact v_iret dX5_seen_4 rfl ⟨(Nat.le_of_ble_eq_true rfl), (Nat.le_of_ble_eq_true rfl)⟩ (by omega) ⟨rfl, rfl⟩
set_option maxHeartbeats 4000000 in
set_option maxRecDepth 100000 in
theorem tX5_edgeFound {G : gG} {fw : Nat → Nat → Nat} {s : sG} {M : wM} (hX : wX G fw s M) {w : Int} (hw : rng w) : wT G qX5_edgeFound 0 0 [.ref (fw 8 0), .int (gI w)] M (iP fun x M' => M' = M ∧ x = if w = 0 then s 8 0 3 else s 8 0 4) := by
  refine wT.intro (by decide) (Nat.le_of_ble_eq_true rfl) (fun sz => ?_)
  have h8 := hX.2.2.2.2.2.1
  refine v_iloadn dX5_edgeFound_0 rfl ?_
  refine v_if_ne 11 dX5_edgeFound_1 (by decide) (by omega) (fun h1 => ?_) (fun h1 => ?_)
  · refine v_aloadn dX5_edgeFound_11 rfl ?_
    refine v_get dX5_edgeFound_12 gf_X5_27 (hX.2.1 8 0 (by decide)) rfl ?_
    exact v_iret dX5_edgeFound_15 rfl ⟨(Nat.le_of_ble_eq_true rfl), (Nat.le_of_ble_eq_true rfl)⟩ (by omega) ⟨rfl, by split <;> first | rfl | omega⟩
  · refine v_aloadn dX5_edgeFound_4 rfl ?_
    refine v_get dX5_edgeFound_5 gf_X5_24 (hX.2.1 8 0 (by decide)) rfl ?_
    refine v_goto 15 dX5_edgeFound_8 (by decide) ?_
    exact v_iret dX5_edgeFound_15 rfl ⟨(Nat.le_of_ble_eq_true rfl), (Nat.le_of_ble_eq_true rfl)⟩ (by omega) ⟨rfl, by split <;> first | rfl | omega⟩
set_option maxHeartbeats 4000000 in
set_option maxRecDepth 100000 in
theorem tX5_clear {G : gG} {fw : Nat → Nat → Nat} {s : sG} {M : wM} (hX : wX G fw s M) : wT G qX5_clear 0 0 [.ref (fw 8 0)] M (vP fun M' => ∃ s', wX G fw s' M' ∧ wO cntX fw M M' ∧ s' = ups s 8 0 1 0) := by
  refine wT.intro (by decide) (Nat.le_of_ble_eq_true rfl) (fun sz => ?_)
  obtain ⟨hJ, hH, hI⟩ := id hX
  have hO : wO cntX fw M M := wO.rf
  have h8 := hX.2.2.2.2.2.1
  refine v_aloadn dX5_clear_0 rfl ?_
  refine v_iconst dX5_clear_1 ?_
  refine v_put dX5_clear_2 pf_X5_17 (hH 8 0 (by decide)) rfl rfl (Nat.le_of_ble_eq_true rfl) ?_
  generalize hMe2 : wup _ _ _ = M2
  have hO : wO cntX fw M M2 := by rw [← hMe2]; exact hO.up (k := 8) (i := 0) (by decide)
  obtain ⟨s2, hs2⟩ : ∃ z, z = ups s 8 0 (1) (0) := ⟨_, rfl⟩
  have hH : wH cntX (cellX G fw) fw s2 M2 := by rw [← hMe2, hs2]; exact wH.up hJ hH (k := 8) (i := 0) (1) (0) (by decide) rfl
  exact v_vret dX5_clear_5 rfl ⟨(Nat.le_of_ble_eq_true rfl), (Nat.le_of_ble_eq_true rfl)⟩ ⟨s2, ⟨hJ, hH, invX_p hI (fun k hk => by rw [hs2]; exact ups_kf _ hk) (by rw [hs2]; simp [ups_at, upz] <;> omega)⟩, hO, hs2⟩
set_option maxHeartbeats 4000000 in
set_option maxRecDepth 100000 in
theorem tX5_take {G : gG} {fw : Nat → Nat → Nat} {s : sG} {M : wM} (hX : wX G fw s M) : wT G qX5_take 0 0 [.ref (fw 8 0)] M (rP fun a M' => ∃ s' j, j < 11 ∧ a = fw 16 j ∧ wX G fw s' M' ∧ wO cntX fw M M' ∧ (j : Int) = (if 10 < s 8 0 1 then 10 else s 8 0 1) ∧ s' = ups s 8 0 1 ((j : Int) + 1)) := by
  refine wT.intro (by decide) (Nat.le_of_ble_eq_true rfl) (fun sz => ?_)
  obtain ⟨hJ, hH, hI⟩ := id hX
  have hO : wO cntX fw M M := wO.rf
  have h8 := hX.2.2.2.2.2.1
  refine v_aloadn dX5_take_0 rfl ?_
  refine v_get dX5_take_1 gf_X5_17 (hH 8 0 (by decide)) rfl ?_
  refine v_aloadn dX5_take_4 rfl ?_
  refine v_get dX5_take_5 gf_X5_11 (hH 8 0 (by decide)) rfl ?_
  refine v_alen (ty := .int) dX5_take_8 (hH 9 0 (by decide)) (by simp) rfl ?_
  refine v_iconst dX5_take_9 ?_
  refine v_isub dX5_take_10 ?_
  refine v_min dX5_take_11 lc_X5_31 (Nat.le_of_ble_eq_true rfl) (Nat.le_of_ble_eq_true rfl) ⟨(Nat.le_of_ble_eq_true rfl), (Nat.le_of_ble_eq_true rfl)⟩ (by omega) (by omega) ?_
  obtain ⟨j, hj⟩ : ∃ j : Nat, (j : Int) = (if (11 : Int) - 1 < s 8 0 1 then 11 - 1 else s 8 0 1) := ⟨(if (11 : Int) - 1 < s 8 0 1 then 11 - 1 else s 8 0 1).toNat, by split <;> omega⟩
  have hj2 : j < 11 := by split at hj <;> omega
  refine wV.stk (st' := [.int (gI (j : Int))]) (by rw [hj]; rfl) ?_
  refine v_istoren dX5_take_14 (Nat.le_of_ble_eq_true rfl) ?_
  refine v_aloadn dX5_take_15 rfl ?_
  refine v_iloadn dX5_take_16 rfl ?_
  refine v_iconst dX5_take_17 ?_
  refine v_iadd dX5_take_18 ?_
  refine v_put dX5_take_19 pf_X5_17 (hH 8 0 (by decide)) rfl rfl (Nat.le_of_ble_eq_true rfl) ?_
  generalize hMe19 : wup _ _ _ = M19
  have hO : wO cntX fw M M19 := by rw [← hMe19]; exact hO.up (k := 8) (i := 0) (by decide)
  obtain ⟨s19, hs19⟩ : ∃ z, z = ups s 8 0 (1) ((j : Int) + 1) := ⟨_, rfl⟩
  have hH : wH cntX (cellX G fw) fw s19 M19 := by rw [← hMe19, hs19]; exact wH.up hJ hH (k := 8) (i := 0) (1) ((j : Int) + 1) (by decide) rfl
  refine v_aloadn dX5_take_22 rfl ?_
  refine v_get dX5_take_23 gf_X5_11 (hH 8 0 (by decide)) rfl ?_
  refine v_iloadn dX5_take_26 rfl ?_
  refine v_aald (cA := G.2.2 0) (Cn := "WavePairs$Pair") dX5_take_27 (hH 9 0 (by decide)) (by simp) (by omega) (by omega) (by decide) ?_
  exact v_aret dX5_take_28 rfl ⟨(Nat.le_of_ble_eq_true rfl), (Nat.le_of_ble_eq_true rfl)⟩ ⟨s19, j, hj2, by simp, ⟨hJ, hH, invX_p hI (fun k hk => by rw [hs19]; exact ups_kf _ hk) (by rw [hs19]; simp [ups_at, upz] <;> omega)⟩, hO, by rw [hj]; rfl, hs19⟩
end
section
def PX (G : gG) (fw : Nat → Nat → Nat) (M : wM) (R : Int → sG → Prop) : Option Value → wM → Prop := iP fun x M' => ∃ s', wX G fw s' M' ∧ wO cntX fw M M' ∧ R x s'
set_option maxHeartbeats 4000000 in
set_option maxRecDepth 100000 in
theorem tX6_isNoSignal {G : gG} {M : wM} {a : Int} (ha : rng a) : wT G qX6_isNoSignal 0 0 [.int (gI a)] M (iP fun x M' => M' = M ∧ ((x = 1 ∧ ¬ (0 ≤ a ∧ a ≤ 11)) ∨ (x = 0 ∧ 0 ≤ a ∧ a ≤ 11))) := by
  refine wT.intro (by decide) (Nat.le_of_ble_eq_true rfl) (fun sz => ?_)
  refine v_iloadn dX6_isNoSignal_0 rfl ?_
  refine v_iconst dX6_isNoSignal_1 ?_
  refine v_bipush dX6_isNoSignal_2 (by decide) ?_
  refine v_callS (tX6_outside (by omega) (by omega) (by omega)) lc_X6_69 ⟨(Nat.le_of_ble_eq_true rfl), (Nat.le_of_ble_eq_true rfl)⟩ dX6_isNoSignal_4 rfl rfl (Nat.le_of_ble_eq_true rfl) ⟨(Nat.le_of_ble_eq_true rfl), (Nat.le_of_ble_eq_true rfl)⟩ (kP fun r4 hr4 hp4 => ?_)
  exact v_zret dX6_isNoSignal_7 rfl ⟨(Nat.le_of_ble_eq_true rfl), (Nat.le_of_ble_eq_true rfl)⟩ (by omega) ⟨rfl, by omega⟩
set_option maxHeartbeats 4000000 in
set_option maxRecDepth 100000 in
theorem tX6_isNoValue {G : gG} {M : wM} {a : Int} (ha : rng a) : wT G qX6_isNoValue 0 0 [.int (gI a)] M (iP fun x M' => M' = M ∧ ((x = 1 ∧ ¬ (0 ≤ a ∧ a ≤ 256)) ∨ (x = 0 ∧ 0 ≤ a ∧ a ≤ 256))) := by
  refine wT.intro (by decide) (Nat.le_of_ble_eq_true rfl) (fun sz => ?_)
  refine v_iloadn dX6_isNoValue_0 rfl ?_
  refine v_iconst dX6_isNoValue_1 ?_
  refine v_sipush dX6_isNoValue_2 (by decide) ?_
  refine v_callS (tX6_outside (by omega) (by omega) (by omega)) lc_X6_69 ⟨(Nat.le_of_ble_eq_true rfl), (Nat.le_of_ble_eq_true rfl)⟩ dX6_isNoValue_5 rfl rfl (Nat.le_of_ble_eq_true rfl) ⟨(Nat.le_of_ble_eq_true rfl), (Nat.le_of_ble_eq_true rfl)⟩ (kP fun r5 hr5 hp5 => ?_)
  exact v_zret dX6_isNoValue_8 rfl ⟨(Nat.le_of_ble_eq_true rfl), (Nat.le_of_ble_eq_true rfl)⟩ (by omega) ⟨rfl, by omega⟩
set_option maxHeartbeats 4000000 in
set_option maxRecDepth 100000 in
theorem tX6_isNoRow {G : gG} {M : wM} {a : Int} (ha : rng a) {b : Int} (hb : rng b) : wT G qX6_isNoRow 0 0 [.int (gI a), .int (gI b)] M (iP fun x M' => M' = M ∧ ((x = 1 ∧ ¬ (0 ≤ a ∧ a ≤ 1 ∧ 0 ≤ b ∧ b ≤ 11)) ∨ (x = 0 ∧ 0 ≤ a ∧ a ≤ 1 ∧ 0 ≤ b ∧ b ≤ 11))) := by
  refine wT.intro (by decide) (Nat.le_of_ble_eq_true rfl) (fun sz => ?_)
  refine v_iloadn dX6_isNoRow_0 rfl ?_
  refine v_iconst dX6_isNoRow_1 ?_
  refine v_iconst dX6_isNoRow_2 ?_
  refine v_callS (tX6_outside (by omega) (by omega) (by omega)) lc_X6_69 ⟨(Nat.le_of_ble_eq_true rfl), (Nat.le_of_ble_eq_true rfl)⟩ dX6_isNoRow_3 rfl rfl (Nat.le_of_ble_eq_true rfl) ⟨(Nat.le_of_ble_eq_true rfl), (Nat.le_of_ble_eq_true rfl)⟩ (kP fun r3 hr3 hp3 => ?_)
  refine v_if_ne 16 dX6_isNoRow_6 (by decide) (by omega) (fun h6 => ?_) (fun h6 => ?_)
  · refine v_iconst dX6_isNoRow_16 ?_
    refine v_goto 21 dX6_isNoRow_17 (by decide) ?_
    exact v_zret dX6_isNoRow_21 rfl ⟨(Nat.le_of_ble_eq_true rfl), (Nat.le_of_ble_eq_true rfl)⟩ (by omega) ⟨rfl, by omega⟩
  · refine v_iloadn dX6_isNoRow_9 rfl ?_
    refine v_callS (tX6_isNoSignal (by omega)) lc_X6_117 ⟨(Nat.le_of_ble_eq_true rfl), (Nat.le_of_ble_eq_true rfl)⟩ dX6_isNoRow_10 rfl rfl (Nat.le_of_ble_eq_true rfl) ⟨(Nat.le_of_ble_eq_true rfl), (Nat.le_of_ble_eq_true rfl)⟩ (kP fun r10 hr10 hp10 => ?_)
    refine v_if_eq 20 dX6_isNoRow_13 (by decide) (by omega) (fun h13 => ?_) (fun h13 => ?_)
    · refine v_iconst dX6_isNoRow_20 ?_
      exact v_zret dX6_isNoRow_21 rfl ⟨(Nat.le_of_ble_eq_true rfl), (Nat.le_of_ble_eq_true rfl)⟩ (by omega) ⟨rfl, by omega⟩
    · refine v_iconst dX6_isNoRow_16 ?_
      refine v_goto 21 dX6_isNoRow_17 (by decide) ?_
      exact v_zret dX6_isNoRow_21 rfl ⟨(Nat.le_of_ble_eq_true rfl), (Nat.le_of_ble_eq_true rfl)⟩ (by omega) ⟨rfl, by omega⟩
set_option maxHeartbeats 4000000 in
set_option maxRecDepth 100000 in
theorem tX6_rowOf {G : gG} {fw : Nat → Nat → Nat} {s : sG} {M : wM} (hX : wX G fw s M) {a b : Int} (ha : bt 0 a 1) (hb : bt 0 b 11) : wT G qX6_rowOf 0 0 [.ref (fw 0 0), .int (gI a), .int (gI b)] M (rP fun r M' => M' = M ∧ r = fw 10 (a * 12 + b).toNat) := by
  refine wT.intro (by decide) (Nat.le_of_ble_eq_true rfl) (fun sz => ?_)
  refine v_aloadn dX6_rowOf_0 rfl ?_
  refine v_get dX6_rowOf_1 gf_X6_11 (hX.2.1 0 0 (by decide)) rfl ?_
  refine v_iloadn dX6_rowOf_4 rfl ?_
  refine v_bipush dX6_rowOf_5 (by decide) ?_
  refine v_imul dX6_rowOf_7 ?_
  refine v_iloadn dX6_rowOf_8 rfl ?_
  refine v_iadd dX6_rowOf_9 ?_
  refine v_aald (cA := G.2.2 0) (Cn := "WavePairs$Row") dX6_rowOf_10 (hX.2.1 1 0 (by decide)) (by simp) (by omega) (by omega) (by decide) ?_
  exact v_aret dX6_rowOf_11 rfl ⟨(Nat.le_of_ble_eq_true rfl), (Nat.le_of_ble_eq_true rfl)⟩ ⟨rfl, rfl⟩
set_option maxHeartbeats 4000000 in
set_option maxRecDepth 100000 in
theorem tX6_namedRow {G : gG} {fw : Nat → Nat → Nat} {s : sG} {M : wM} (hX : wX G fw s M) {a b : Int} (ha : bt 0 a 1) (hb : bt 0 b 11) : wT G qX6_namedRow 0 0 [.ref (fw 0 0), .int (gI a), .int (gI b)] M (rP fun r M' => M' = M ∧ r = fw 10 (if a = 0 then b else 12 + s 2 0 b.toNat).toNat) := by
  refine wT.intro (by decide) (Nat.le_of_ble_eq_true rfl) (fun sz => ?_)
  have hnm := hX.2.2.2.1 b.toNat (by omega)
  refine v_iloadn dX6_namedRow_0 rfl ?_
  refine v_if_ne 13 dX6_namedRow_1 (by decide) (by omega) (fun h1 => ?_) (fun h1 => ?_)
  · refine v_aloadn dX6_namedRow_13 rfl ?_
    refine v_iconst dX6_namedRow_14 ?_
    refine v_aloadn dX6_namedRow_15 rfl ?_
    refine v_get dX6_namedRow_16 gf_X6_15 (hX.2.1 0 0 (by decide)) rfl ?_
    refine v_iloadn dX6_namedRow_19 rfl ?_
    refine v_iald dX6_namedRow_20 (hX.2.1 2 0 (by decide)) (by omega) (by omega) (by decide) ?_
    refine v_callV (tX6_rowOf hX (by omega) (by omega)) lc_X6_77 ⟨(Nat.le_of_ble_eq_true rfl), (Nat.le_of_ble_eq_true rfl)⟩ dX6_namedRow_21 rfl rfl (Nat.le_of_ble_eq_true rfl) ⟨(Nat.le_of_ble_eq_true rfl), (Nat.le_of_ble_eq_true rfl)⟩ ⟨_, _, _, _, (hX.2.1 0 0 (by decide)), rfl⟩ (kRp fun r21 hp21 => ?_)
    exact v_aret dX6_namedRow_24 rfl ⟨(Nat.le_of_ble_eq_true rfl), (Nat.le_of_ble_eq_true rfl)⟩ ⟨rfl, by first | (rw [hp7, if_pos (by omega)]; congr 1; omega) | (rw [hp21, if_neg (by omega)]; congr 1)⟩
  · refine v_aloadn dX6_namedRow_4 rfl ?_
    refine v_iconst dX6_namedRow_5 ?_
    refine v_iloadn dX6_namedRow_6 rfl ?_
    refine v_callV (tX6_rowOf hX (by omega) (by omega)) lc_X6_77 ⟨(Nat.le_of_ble_eq_true rfl), (Nat.le_of_ble_eq_true rfl)⟩ dX6_namedRow_7 rfl rfl (Nat.le_of_ble_eq_true rfl) ⟨(Nat.le_of_ble_eq_true rfl), (Nat.le_of_ble_eq_true rfl)⟩ ⟨_, _, _, _, (hX.2.1 0 0 (by decide)), rfl⟩ (kRp fun r7 hp7 => ?_)
    refine v_goto 24 dX6_namedRow_10 (by decide) ?_
    exact v_aret dX6_namedRow_24 rfl ⟨(Nat.le_of_ble_eq_true rfl), (Nat.le_of_ble_eq_true rfl)⟩ ⟨rfl, by first | (rw [hp7, if_pos (by omega)]; congr 1; omega) | (rw [hp21, if_neg (by omega)]; congr 1)⟩
theorem nmd_lt {s : sG} (hI : invX s) {a b : Int} (ha : bt 0 a 1) (hb : bt 0 b 11) : (if a = 0 then b else 12 + s 2 0 b.toNat).toNat < 45 := by
  have := hI.2.1 b.toNat (by omega)
  split <;> omega
set_option maxHeartbeats 4000000 in
set_option maxRecDepth 100000 in
theorem tX6_rule {G : gG} {fw : Nat → Nat → Nat} {s : sG} {M : wM} (hX : wX G fw s M) {a v : Int} (ha : rng a) (hv : rng v) : wT G qX6_rule 0 0 [.ref (fw 0 0), .int (gI a), .int (gI v)] M (PX G fw M (fun x s' => (a = 0 ∧ bt 1 v 4000 ∧ x = s 0 0 9 ∧ s' = ups s 0 0 9 v) ∨ (a = 1 ∧ bt 0 v 1 ∧ x = s 0 0 10 ∧ s' = ups s 0 0 10 v) ∨ (¬ (a = 0 ∧ bt 1 v 4000) ∧ ¬ (a = 1 ∧ bt 0 v 1) ∧ x = -1 ∧ s' = s))) := by
  refine wT.intro (by decide) (Nat.le_of_ble_eq_true rfl) (fun sz => ?_)
  obtain ⟨hJ, hH, hI⟩ := id hX
  have hO : wO cntX fw M M := wO.rf
  have h0 := hX.2.2.1
  have hnm := hX.2.2.2.1
  have hsh := hX.2.2.2.2.1
  have h8 := hX.2.2.2.2.2.1
  refine v_iloadn dX6_rule_0 rfl ?_
  refine v_if_ne 27 dX6_rule_1 (by decide) (by omega) (fun h1 => ?_) (fun h1 => ?_)
  · refine v_iloadn dX6_rule_27 rfl ?_
    refine v_iconst dX6_rule_28 ?_
    refine v_icmp_ne 70 dX6_rule_29 (by decide) (by omega) (by omega) (fun h29 => ?_) (fun h29 => ?_)
    · refine v_iconst dX6_rule_70 ?_
      exact v_iret dX6_rule_71 rfl ⟨(Nat.le_of_ble_eq_true rfl), (Nat.le_of_ble_eq_true rfl)⟩ (by omega) ⟨s, hX, wO.rf, Or.inr (Or.inr ⟨by omega, by omega, by omega, rfl⟩)⟩
    · refine v_iloadn dX6_rule_32 rfl ?_
      refine v_iconst dX6_rule_33 ?_
      refine v_iconst dX6_rule_34 ?_
      refine v_callS (tX6_outside (by omega) (by omega) (by omega)) lc_X6_69 ⟨(Nat.le_of_ble_eq_true rfl), (Nat.le_of_ble_eq_true rfl)⟩ dX6_rule_35 rfl rfl (Nat.le_of_ble_eq_true rfl) ⟨(Nat.le_of_ble_eq_true rfl), (Nat.le_of_ble_eq_true rfl)⟩ (kP fun r35 hr35 hp35 => ?_)
      refine v_if_ne 70 dX6_rule_38 (by decide) (by omega) (fun h38 => ?_) (fun h38 => ?_)
      · refine v_iconst dX6_rule_70 ?_
        exact v_iret dX6_rule_71 rfl ⟨(Nat.le_of_ble_eq_true rfl), (Nat.le_of_ble_eq_true rfl)⟩ (by omega) ⟨s, hX, wO.rf, Or.inr (Or.inr ⟨by omega, by omega, by omega, rfl⟩)⟩
      · refine v_aloadn dX6_rule_41 rfl ?_
        refine v_get dX6_rule_42 gf_X6_57 (hH 0 0 (by decide)) rfl ?_
        refine v_if_eq 52 dX6_rule_45 (by decide) (by omega) (fun h45 => ?_) (fun h45 => ?_)
        · refine v_iconst dX6_rule_52 ?_
          refine v_istoren dX6_rule_53 (Nat.le_of_ble_eq_true rfl) ?_
          refine v_aloadn dX6_rule_54 rfl ?_
          refine v_iloadn dX6_rule_55 rfl ?_
          refine v_iconst dX6_rule_56 ?_
          refine v_icmp_ne 64 dX6_rule_57 (by decide) (by omega) (by omega) (fun h57 => ?_) (fun h57 => ?_)
          · refine v_iconst dX6_rule_64 ?_
            refine v_put dX6_rule_65 pf_X6_57 (hH 0 0 (by decide)) rfl rfl (Nat.le_of_ble_eq_true rfl) ?_
            generalize hMe65 : wup _ _ _ = M65
            have hO : wO cntX fw M M65 := by rw [← hMe65]; exact hO.up (k := 0) (i := 0) (by decide)
            obtain ⟨s65, hs65⟩ : ∃ z, z = ups s 0 0 (10) (0) := ⟨_, rfl⟩
            have hH : wH cntX (cellX G fw) fw s65 M65 := by rw [← hMe65, hs65]; exact wH.up hJ hH (k := 0) (i := 0) (10) (0) (by decide) rfl
            refine v_iloadn dX6_rule_68 rfl ?_
            exact v_iret dX6_rule_69 rfl ⟨(Nat.le_of_ble_eq_true rfl), (Nat.le_of_ble_eq_true rfl)⟩ (by omega) ⟨s65, ⟨hJ, hH, invX_z hI (fun k hk => by rw [hs65]; exact ups_kf _ hk) (by rw [hs65]; simp [ups_at, upz] <;> omega)⟩, hO, Or.inr (Or.inl ⟨by omega, by omega, by omega, by rw [hs65, show v = 0 by omega]⟩)⟩
          · refine v_iconst dX6_rule_60 ?_
            refine v_goto 65 dX6_rule_61 (by decide) ?_
            refine v_put dX6_rule_65 pf_X6_57 (hH 0 0 (by decide)) rfl rfl (Nat.le_of_ble_eq_true rfl) ?_
            generalize hMe65 : wup _ _ _ = M65
            have hO : wO cntX fw M M65 := by rw [← hMe65]; exact hO.up (k := 0) (i := 0) (by decide)
            obtain ⟨s65, hs65⟩ : ∃ z, z = ups s 0 0 (10) (1) := ⟨_, rfl⟩
            have hH : wH cntX (cellX G fw) fw s65 M65 := by rw [← hMe65, hs65]; exact wH.up hJ hH (k := 0) (i := 0) (10) (1) (by decide) rfl
            refine v_iloadn dX6_rule_68 rfl ?_
            exact v_iret dX6_rule_69 rfl ⟨(Nat.le_of_ble_eq_true rfl), (Nat.le_of_ble_eq_true rfl)⟩ (by omega) ⟨s65, ⟨hJ, hH, invX_z hI (fun k hk => by rw [hs65]; exact ups_kf _ hk) (by rw [hs65]; simp [ups_at, upz] <;> omega)⟩, hO, Or.inr (Or.inl ⟨by omega, by omega, by omega, by rw [hs65, show v = 1 by omega]⟩)⟩
        · refine v_iconst dX6_rule_48 ?_
          refine v_goto 53 dX6_rule_49 (by decide) ?_
          refine v_istoren dX6_rule_53 (Nat.le_of_ble_eq_true rfl) ?_
          refine v_aloadn dX6_rule_54 rfl ?_
          refine v_iloadn dX6_rule_55 rfl ?_
          refine v_iconst dX6_rule_56 ?_
          refine v_icmp_ne 64 dX6_rule_57 (by decide) (by omega) (by omega) (fun h57 => ?_) (fun h57 => ?_)
          · refine v_iconst dX6_rule_64 ?_
            refine v_put dX6_rule_65 pf_X6_57 (hH 0 0 (by decide)) rfl rfl (Nat.le_of_ble_eq_true rfl) ?_
            generalize hMe65 : wup _ _ _ = M65
            have hO : wO cntX fw M M65 := by rw [← hMe65]; exact hO.up (k := 0) (i := 0) (by decide)
            obtain ⟨s65, hs65⟩ : ∃ z, z = ups s 0 0 (10) (0) := ⟨_, rfl⟩
            have hH : wH cntX (cellX G fw) fw s65 M65 := by rw [← hMe65, hs65]; exact wH.up hJ hH (k := 0) (i := 0) (10) (0) (by decide) rfl
            refine v_iloadn dX6_rule_68 rfl ?_
            exact v_iret dX6_rule_69 rfl ⟨(Nat.le_of_ble_eq_true rfl), (Nat.le_of_ble_eq_true rfl)⟩ (by omega) ⟨s65, ⟨hJ, hH, invX_z hI (fun k hk => by rw [hs65]; exact ups_kf _ hk) (by rw [hs65]; simp [ups_at, upz] <;> omega)⟩, hO, Or.inr (Or.inl ⟨by omega, by omega, by omega, by rw [hs65, show v = 0 by omega]⟩)⟩
          · refine v_iconst dX6_rule_60 ?_
            refine v_goto 65 dX6_rule_61 (by decide) ?_
            refine v_put dX6_rule_65 pf_X6_57 (hH 0 0 (by decide)) rfl rfl (Nat.le_of_ble_eq_true rfl) ?_
            generalize hMe65 : wup _ _ _ = M65
            have hO : wO cntX fw M M65 := by rw [← hMe65]; exact hO.up (k := 0) (i := 0) (by decide)
            obtain ⟨s65, hs65⟩ : ∃ z, z = ups s 0 0 (10) (1) := ⟨_, rfl⟩
            have hH : wH cntX (cellX G fw) fw s65 M65 := by rw [← hMe65, hs65]; exact wH.up hJ hH (k := 0) (i := 0) (10) (1) (by decide) rfl
            refine v_iloadn dX6_rule_68 rfl ?_
            exact v_iret dX6_rule_69 rfl ⟨(Nat.le_of_ble_eq_true rfl), (Nat.le_of_ble_eq_true rfl)⟩ (by omega) ⟨s65, ⟨hJ, hH, invX_z hI (fun k hk => by rw [hs65]; exact ups_kf _ hk) (by rw [hs65]; simp [ups_at, upz] <;> omega)⟩, hO, Or.inr (Or.inl ⟨by omega, by omega, by omega, by rw [hs65, show v = 1 by omega]⟩)⟩
  · refine v_iloadn dX6_rule_4 rfl ?_
    refine v_iconst dX6_rule_5 ?_
    refine v_sipush dX6_rule_6 (by decide) ?_
    refine v_callS (tX6_outside (by omega) (by omega) (by omega)) lc_X6_69 ⟨(Nat.le_of_ble_eq_true rfl), (Nat.le_of_ble_eq_true rfl)⟩ dX6_rule_9 rfl rfl (Nat.le_of_ble_eq_true rfl) ⟨(Nat.le_of_ble_eq_true rfl), (Nat.le_of_ble_eq_true rfl)⟩ (kP fun r9 hr9 hp9 => ?_)
    refine v_if_ne 27 dX6_rule_12 (by decide) (by omega) (fun h12 => ?_) (fun h12 => ?_)
    · refine v_iloadn dX6_rule_27 rfl ?_
      refine v_iconst dX6_rule_28 ?_
      refine v_icmp_ne 70 dX6_rule_29 (by decide) (by omega) (by omega) (fun h29 => ?_) (fun h29 => ?_)
      · refine v_iconst dX6_rule_70 ?_
        exact v_iret dX6_rule_71 rfl ⟨(Nat.le_of_ble_eq_true rfl), (Nat.le_of_ble_eq_true rfl)⟩ (by omega) ⟨s, hX, wO.rf, Or.inr (Or.inr ⟨by omega, by omega, by omega, rfl⟩)⟩
      · refine v_iloadn dX6_rule_32 rfl ?_
        refine v_iconst dX6_rule_33 ?_
        refine v_iconst dX6_rule_34 ?_
        refine v_callS (tX6_outside (by omega) (by omega) (by omega)) lc_X6_69 ⟨(Nat.le_of_ble_eq_true rfl), (Nat.le_of_ble_eq_true rfl)⟩ dX6_rule_35 rfl rfl (Nat.le_of_ble_eq_true rfl) ⟨(Nat.le_of_ble_eq_true rfl), (Nat.le_of_ble_eq_true rfl)⟩ (kP fun r35 hr35 hp35 => ?_)
        refine v_if_ne 70 dX6_rule_38 (by decide) (by omega) (fun h38 => ?_) (fun h38 => ?_)
        · refine v_iconst dX6_rule_70 ?_
          exact v_iret dX6_rule_71 rfl ⟨(Nat.le_of_ble_eq_true rfl), (Nat.le_of_ble_eq_true rfl)⟩ (by omega) ⟨s, hX, wO.rf, Or.inr (Or.inr ⟨by omega, by omega, by omega, rfl⟩)⟩
        · refine v_aloadn dX6_rule_41 rfl ?_
          refine v_get dX6_rule_42 gf_X6_57 (hH 0 0 (by decide)) rfl ?_
          refine v_if_eq 52 dX6_rule_45 (by decide) (by omega) (fun h45 => ?_) (fun h45 => ?_)
          · refine v_iconst dX6_rule_52 ?_
            refine v_istoren dX6_rule_53 (Nat.le_of_ble_eq_true rfl) ?_
            refine v_aloadn dX6_rule_54 rfl ?_
            refine v_iloadn dX6_rule_55 rfl ?_
            refine v_iconst dX6_rule_56 ?_
            refine v_icmp_ne 64 dX6_rule_57 (by decide) (by omega) (by omega) (fun h57 => ?_) (fun h57 => ?_)
            · refine v_iconst dX6_rule_64 ?_
              refine v_put dX6_rule_65 pf_X6_57 (hH 0 0 (by decide)) rfl rfl (Nat.le_of_ble_eq_true rfl) ?_
              generalize hMe65 : wup _ _ _ = M65
              have hO : wO cntX fw M M65 := by rw [← hMe65]; exact hO.up (k := 0) (i := 0) (by decide)
              obtain ⟨s65, hs65⟩ : ∃ z, z = ups s 0 0 (10) (0) := ⟨_, rfl⟩
              have hH : wH cntX (cellX G fw) fw s65 M65 := by rw [← hMe65, hs65]; exact wH.up hJ hH (k := 0) (i := 0) (10) (0) (by decide) rfl
              refine v_iloadn dX6_rule_68 rfl ?_
              exact v_iret dX6_rule_69 rfl ⟨(Nat.le_of_ble_eq_true rfl), (Nat.le_of_ble_eq_true rfl)⟩ (by omega) ⟨s65, ⟨hJ, hH, invX_z hI (fun k hk => by rw [hs65]; exact ups_kf _ hk) (by rw [hs65]; simp [ups_at, upz] <;> omega)⟩, hO, Or.inr (Or.inl ⟨by omega, by omega, by omega, by rw [hs65, show v = 0 by omega]⟩)⟩
            · refine v_iconst dX6_rule_60 ?_
              refine v_goto 65 dX6_rule_61 (by decide) ?_
              refine v_put dX6_rule_65 pf_X6_57 (hH 0 0 (by decide)) rfl rfl (Nat.le_of_ble_eq_true rfl) ?_
              generalize hMe65 : wup _ _ _ = M65
              have hO : wO cntX fw M M65 := by rw [← hMe65]; exact hO.up (k := 0) (i := 0) (by decide)
              obtain ⟨s65, hs65⟩ : ∃ z, z = ups s 0 0 (10) (1) := ⟨_, rfl⟩
              have hH : wH cntX (cellX G fw) fw s65 M65 := by rw [← hMe65, hs65]; exact wH.up hJ hH (k := 0) (i := 0) (10) (1) (by decide) rfl
              refine v_iloadn dX6_rule_68 rfl ?_
              exact v_iret dX6_rule_69 rfl ⟨(Nat.le_of_ble_eq_true rfl), (Nat.le_of_ble_eq_true rfl)⟩ (by omega) ⟨s65, ⟨hJ, hH, invX_z hI (fun k hk => by rw [hs65]; exact ups_kf _ hk) (by rw [hs65]; simp [ups_at, upz] <;> omega)⟩, hO, Or.inr (Or.inl ⟨by omega, by omega, by omega, by rw [hs65, show v = 1 by omega]⟩)⟩
          · refine v_iconst dX6_rule_48 ?_
            refine v_goto 53 dX6_rule_49 (by decide) ?_
            refine v_istoren dX6_rule_53 (Nat.le_of_ble_eq_true rfl) ?_
            refine v_aloadn dX6_rule_54 rfl ?_
            refine v_iloadn dX6_rule_55 rfl ?_
            refine v_iconst dX6_rule_56 ?_
            refine v_icmp_ne 64 dX6_rule_57 (by decide) (by omega) (by omega) (fun h57 => ?_) (fun h57 => ?_)
            · refine v_iconst dX6_rule_64 ?_
              refine v_put dX6_rule_65 pf_X6_57 (hH 0 0 (by decide)) rfl rfl (Nat.le_of_ble_eq_true rfl) ?_
              generalize hMe65 : wup _ _ _ = M65
              have hO : wO cntX fw M M65 := by rw [← hMe65]; exact hO.up (k := 0) (i := 0) (by decide)
              obtain ⟨s65, hs65⟩ : ∃ z, z = ups s 0 0 (10) (0) := ⟨_, rfl⟩
              have hH : wH cntX (cellX G fw) fw s65 M65 := by rw [← hMe65, hs65]; exact wH.up hJ hH (k := 0) (i := 0) (10) (0) (by decide) rfl
              refine v_iloadn dX6_rule_68 rfl ?_
              exact v_iret dX6_rule_69 rfl ⟨(Nat.le_of_ble_eq_true rfl), (Nat.le_of_ble_eq_true rfl)⟩ (by omega) ⟨s65, ⟨hJ, hH, invX_z hI (fun k hk => by rw [hs65]; exact ups_kf _ hk) (by rw [hs65]; simp [ups_at, upz] <;> omega)⟩, hO, Or.inr (Or.inl ⟨by omega, by omega, by omega, by rw [hs65, show v = 0 by omega]⟩)⟩
            · refine v_iconst dX6_rule_60 ?_
              refine v_goto 65 dX6_rule_61 (by decide) ?_
              refine v_put dX6_rule_65 pf_X6_57 (hH 0 0 (by decide)) rfl rfl (Nat.le_of_ble_eq_true rfl) ?_
              generalize hMe65 : wup _ _ _ = M65
              have hO : wO cntX fw M M65 := by rw [← hMe65]; exact hO.up (k := 0) (i := 0) (by decide)
              obtain ⟨s65, hs65⟩ : ∃ z, z = ups s 0 0 (10) (1) := ⟨_, rfl⟩
              have hH : wH cntX (cellX G fw) fw s65 M65 := by rw [← hMe65, hs65]; exact wH.up hJ hH (k := 0) (i := 0) (10) (1) (by decide) rfl
              refine v_iloadn dX6_rule_68 rfl ?_
              exact v_iret dX6_rule_69 rfl ⟨(Nat.le_of_ble_eq_true rfl), (Nat.le_of_ble_eq_true rfl)⟩ (by omega) ⟨s65, ⟨hJ, hH, invX_z hI (fun k hk => by rw [hs65]; exact ups_kf _ hk) (by rw [hs65]; simp [ups_at, upz] <;> omega)⟩, hO, Or.inr (Or.inl ⟨by omega, by omega, by omega, by rw [hs65, show v = 1 by omega]⟩)⟩
    · refine v_aloadn dX6_rule_15 rfl ?_
      refine v_get dX6_rule_16 gf_X6_54 (hH 0 0 (by decide)) rfl ?_
      refine v_istoren dX6_rule_19 (Nat.le_of_ble_eq_true rfl) ?_
      refine v_aloadn dX6_rule_20 rfl ?_
      refine v_iloadn dX6_rule_21 rfl ?_
      refine v_put dX6_rule_22 pf_X6_54 (hH 0 0 (by decide)) rfl rfl (Nat.le_of_ble_eq_true rfl) ?_
      generalize hMe22 : wup _ _ _ = M22
      have hO : wO cntX fw M M22 := by rw [← hMe22]; exact hO.up (k := 0) (i := 0) (by decide)
      obtain ⟨s22, hs22⟩ : ∃ z, z = ups s 0 0 (9) (v) := ⟨_, rfl⟩
      have hH : wH cntX (cellX G fw) fw s22 M22 := by rw [← hMe22, hs22]; exact wH.up hJ hH (k := 0) (i := 0) (9) (v) (by decide) rfl
      refine v_iloadn dX6_rule_25 rfl ?_
      exact v_iret dX6_rule_26 rfl ⟨(Nat.le_of_ble_eq_true rfl), (Nat.le_of_ble_eq_true rfl)⟩ (by omega) ⟨s22, ⟨hJ, hH, invX_z hI (fun k hk => by rw [hs22]; exact ups_kf _ hk) (by rw [hs22]; simp [ups_at, upz] <;> omega)⟩, hO, Or.inl ⟨by omega, by omega, rfl, hs22⟩⟩
set_option maxHeartbeats 4000000 in
set_option maxRecDepth 100000 in
theorem tX6_call {G : gG} {fw : Nat → Nat → Nat} {s : sG} {M : wM} (hX : wX G fw s M) {a w v : Int} (ha : rng a) (hw : rng w) (hv : rng v) : wT G qX6_call 0 0 [.ref (fw 0 0), .int (gI a), .int (gI w), .int (gI v)] M (PX G fw M (fun x s' => (bt 0 a 11 ∧ w = 0 ∧ bt 0 v 11 ∧ x = s 2 0 a.toNat ∧ s' = ups s 2 0 a.toNat v) ∨ (bt 0 a 11 ∧ w = 1 ∧ bt 0 v 3 ∧ x = s 3 0 a.toNat ∧ s' = ups s 3 0 a.toNat v) ∨ (¬ (bt 0 a 11 ∧ w = 0 ∧ bt 0 v 11) ∧ ¬ (bt 0 a 11 ∧ w = 1 ∧ bt 0 v 3) ∧ x = -1 ∧ s' = s))) := by
  refine wT.intro (by decide) (Nat.le_of_ble_eq_true rfl) (fun sz => ?_)
  obtain ⟨hJ, hH, hI⟩ := id hX
  have hO : wO cntX fw M M := wO.rf
  have h0 := hX.2.2.1
  have hnm := hX.2.2.2.1
  have hsh := hX.2.2.2.2.1
  have h8 := hX.2.2.2.2.2.1
  refine v_iloadn dX6_call_0 rfl ?_
  refine v_callS (tX6_isNoSignal (by omega)) lc_X6_117 ⟨(Nat.le_of_ble_eq_true rfl), (Nat.le_of_ble_eq_true rfl)⟩ dX6_call_1 rfl rfl (Nat.le_of_ble_eq_true rfl) ⟨(Nat.le_of_ble_eq_true rfl), (Nat.le_of_ble_eq_true rfl)⟩ (kP fun r1 hr1 hp1 => ?_)
  refine v_if_eq 9 dX6_call_4 (by decide) (by omega) (fun h4 => ?_) (fun h4 => ?_)
  · refine v_iloadn dX6_call_9 rfl ?_
    refine v_if_ne 38 dX6_call_10 (by decide) (by omega) (fun h10 => ?_) (fun h10 => ?_)
    · refine v_iloadn dX6_call_38 rfl ?_
      refine v_iconst dX6_call_39 ?_
      refine v_icmp_ne 70 dX6_call_40 (by decide) (by omega) (by omega) (fun h40 => ?_) (fun h40 => ?_)
      · refine v_iconst dX6_call_70 ?_
        exact v_iret dX6_call_71 rfl ⟨(Nat.le_of_ble_eq_true rfl), (Nat.le_of_ble_eq_true rfl)⟩ (by omega) ⟨s, hX, wO.rf, Or.inr (Or.inr ⟨by omega, by omega, by omega, rfl⟩)⟩
      · refine v_iloadn dX6_call_43 rfl ?_
        refine v_iconst dX6_call_44 ?_
        refine v_iconst dX6_call_45 ?_
        refine v_callS (tX6_outside (by omega) (by omega) (by omega)) lc_X6_69 ⟨(Nat.le_of_ble_eq_true rfl), (Nat.le_of_ble_eq_true rfl)⟩ dX6_call_46 rfl rfl (Nat.le_of_ble_eq_true rfl) ⟨(Nat.le_of_ble_eq_true rfl), (Nat.le_of_ble_eq_true rfl)⟩ (kP fun r46 hr46 hp46 => ?_)
        refine v_if_ne 70 dX6_call_49 (by decide) (by omega) (fun h49 => ?_) (fun h49 => ?_)
        · refine v_iconst dX6_call_70 ?_
          exact v_iret dX6_call_71 rfl ⟨(Nat.le_of_ble_eq_true rfl), (Nat.le_of_ble_eq_true rfl)⟩ (by omega) ⟨s, hX, wO.rf, Or.inr (Or.inr ⟨by omega, by omega, by omega, rfl⟩)⟩
        · refine v_aloadn dX6_call_52 rfl ?_
          refine v_get dX6_call_53 gf_X6_19 (hH 0 0 (by decide)) rfl ?_
          refine v_iloadn dX6_call_56 rfl ?_
          refine v_iald dX6_call_57 (hH 3 0 (by decide)) (by omega) (by omega) (by decide) ?_
          have hna := hnm a.toNat (by omega)
          refine v_istore dX6_call_58 (Nat.le_of_ble_eq_true rfl) ?_
          refine v_aloadn dX6_call_60 rfl ?_
          refine v_get dX6_call_61 gf_X6_19 (hH 0 0 (by decide)) rfl ?_
          refine v_iloadn dX6_call_64 rfl ?_
          refine v_iloadn dX6_call_65 rfl ?_
          refine v_iast dX6_call_66 (hH 3 0 (by decide)) (by omega) (by omega) (by decide) ?_
          generalize hMe66 : wup _ _ _ = M66
          have hO : wO cntX fw M M66 := by rw [← hMe66]; exact hO.up (k := 3) (i := 0) (by decide)
          obtain ⟨s66, hs66⟩ : ∃ z, z = ups s 3 0 (a.toNat) (v) := ⟨_, rfl⟩
          have hH : wH cntX (cellX G fw) fw s66 M66 := by rw [← hMe66, hs66]; exact wH.up hJ hH (k := 3) (i := 0) (a.toNat) (v) (by decide) rfl
          refine v_iload dX6_call_67 rfl ?_
          exact v_iret dX6_call_69 rfl ⟨(Nat.le_of_ble_eq_true rfl), (Nat.le_of_ble_eq_true rfl)⟩ (by omega) ⟨s66, ⟨hJ, hH, invX_n hI (fun k h1 h2 => by rw [hs66]; first | exact ups_kf _ h1 | exact ups_kf _ h2) (fun j hj => by have h1 := hnm j hj; have h2 := hnm a.toNat (by omega); rw [hs66]; by_cases q : j = a.toNat <;> simp [ups, upz, q] <;> omega)⟩, hO, Or.inr (Or.inl ⟨by omega, by omega, by omega, rfl, hs66⟩)⟩
    · refine v_iloadn dX6_call_13 rfl ?_
      refine v_callS (tX6_isNoSignal (by omega)) lc_X6_117 ⟨(Nat.le_of_ble_eq_true rfl), (Nat.le_of_ble_eq_true rfl)⟩ dX6_call_14 rfl rfl (Nat.le_of_ble_eq_true rfl) ⟨(Nat.le_of_ble_eq_true rfl), (Nat.le_of_ble_eq_true rfl)⟩ (kP fun r14 hr14 hp14 => ?_)
      refine v_if_ne 38 dX6_call_17 (by decide) (by omega) (fun h17 => ?_) (fun h17 => ?_)
      · refine v_iloadn dX6_call_38 rfl ?_
        refine v_iconst dX6_call_39 ?_
        refine v_icmp_ne 70 dX6_call_40 (by decide) (by omega) (by omega) (fun h40 => ?_) (fun h40 => ?_)
        · refine v_iconst dX6_call_70 ?_
          exact v_iret dX6_call_71 rfl ⟨(Nat.le_of_ble_eq_true rfl), (Nat.le_of_ble_eq_true rfl)⟩ (by omega) ⟨s, hX, wO.rf, Or.inr (Or.inr ⟨by omega, by omega, by omega, rfl⟩)⟩
        · refine v_iloadn dX6_call_43 rfl ?_
          refine v_iconst dX6_call_44 ?_
          refine v_iconst dX6_call_45 ?_
          refine v_callS (tX6_outside (by omega) (by omega) (by omega)) lc_X6_69 ⟨(Nat.le_of_ble_eq_true rfl), (Nat.le_of_ble_eq_true rfl)⟩ dX6_call_46 rfl rfl (Nat.le_of_ble_eq_true rfl) ⟨(Nat.le_of_ble_eq_true rfl), (Nat.le_of_ble_eq_true rfl)⟩ (kP fun r46 hr46 hp46 => ?_)
          refine v_if_ne 70 dX6_call_49 (by decide) (by omega) (fun h49 => ?_) (fun h49 => ?_)
          · refine v_iconst dX6_call_70 ?_
            exact v_iret dX6_call_71 rfl ⟨(Nat.le_of_ble_eq_true rfl), (Nat.le_of_ble_eq_true rfl)⟩ (by omega) ⟨s, hX, wO.rf, Or.inr (Or.inr ⟨by omega, by omega, by omega, rfl⟩)⟩
          · refine v_aloadn dX6_call_52 rfl ?_
            refine v_get dX6_call_53 gf_X6_19 (hH 0 0 (by decide)) rfl ?_
            refine v_iloadn dX6_call_56 rfl ?_
            refine v_iald dX6_call_57 (hH 3 0 (by decide)) (by omega) (by omega) (by decide) ?_
            have hna := hnm a.toNat (by omega)
            refine v_istore dX6_call_58 (Nat.le_of_ble_eq_true rfl) ?_
            refine v_aloadn dX6_call_60 rfl ?_
            refine v_get dX6_call_61 gf_X6_19 (hH 0 0 (by decide)) rfl ?_
            refine v_iloadn dX6_call_64 rfl ?_
            refine v_iloadn dX6_call_65 rfl ?_
            refine v_iast dX6_call_66 (hH 3 0 (by decide)) (by omega) (by omega) (by decide) ?_
            generalize hMe66 : wup _ _ _ = M66
            have hO : wO cntX fw M M66 := by rw [← hMe66]; exact hO.up (k := 3) (i := 0) (by decide)
            obtain ⟨s66, hs66⟩ : ∃ z, z = ups s 3 0 (a.toNat) (v) := ⟨_, rfl⟩
            have hH : wH cntX (cellX G fw) fw s66 M66 := by rw [← hMe66, hs66]; exact wH.up hJ hH (k := 3) (i := 0) (a.toNat) (v) (by decide) rfl
            refine v_iload dX6_call_67 rfl ?_
            exact v_iret dX6_call_69 rfl ⟨(Nat.le_of_ble_eq_true rfl), (Nat.le_of_ble_eq_true rfl)⟩ (by omega) ⟨s66, ⟨hJ, hH, invX_n hI (fun k h1 h2 => by rw [hs66]; first | exact ups_kf _ h1 | exact ups_kf _ h2) (fun j hj => by have h1 := hnm j hj; have h2 := hnm a.toNat (by omega); rw [hs66]; by_cases q : j = a.toNat <;> simp [ups, upz, q] <;> omega)⟩, hO, Or.inr (Or.inl ⟨by omega, by omega, by omega, rfl, hs66⟩)⟩
      · refine v_aloadn dX6_call_20 rfl ?_
        refine v_get dX6_call_21 gf_X6_15 (hH 0 0 (by decide)) rfl ?_
        refine v_iloadn dX6_call_24 rfl ?_
        refine v_iald dX6_call_25 (hH 2 0 (by decide)) (by omega) (by omega) (by decide) ?_
        have hna := hnm a.toNat (by omega)
        refine v_istore dX6_call_26 (Nat.le_of_ble_eq_true rfl) ?_
        refine v_aloadn dX6_call_28 rfl ?_
        refine v_get dX6_call_29 gf_X6_15 (hH 0 0 (by decide)) rfl ?_
        refine v_iloadn dX6_call_32 rfl ?_
        refine v_iloadn dX6_call_33 rfl ?_
        refine v_iast dX6_call_34 (hH 2 0 (by decide)) (by omega) (by omega) (by decide) ?_
        generalize hMe34 : wup _ _ _ = M34
        have hO : wO cntX fw M M34 := by rw [← hMe34]; exact hO.up (k := 2) (i := 0) (by decide)
        obtain ⟨s34, hs34⟩ : ∃ z, z = ups s 2 0 (a.toNat) (v) := ⟨_, rfl⟩
        have hH : wH cntX (cellX G fw) fw s34 M34 := by rw [← hMe34, hs34]; exact wH.up hJ hH (k := 2) (i := 0) (a.toNat) (v) (by decide) rfl
        refine v_iload dX6_call_35 rfl ?_
        exact v_iret dX6_call_37 rfl ⟨(Nat.le_of_ble_eq_true rfl), (Nat.le_of_ble_eq_true rfl)⟩ (by omega) ⟨s34, ⟨hJ, hH, invX_n hI (fun k h1 h2 => by rw [hs34]; first | exact ups_kf _ h1 | exact ups_kf _ h2) (fun j hj => by have h1 := hnm j hj; have h2 := hnm a.toNat (by omega); rw [hs34]; by_cases q : j = a.toNat <;> simp [ups, upz, q] <;> omega)⟩, hO, Or.inl ⟨by omega, by omega, by omega, rfl, hs34⟩⟩
  · refine v_iconst dX6_call_7 ?_
    exact v_iret dX6_call_8 rfl ⟨(Nat.le_of_ble_eq_true rfl), (Nat.le_of_ble_eq_true rfl)⟩ (by omega) ⟨s, hX, wO.rf, Or.inr (Or.inr ⟨by omega, by omega, by omega, rfl⟩)⟩
set_option maxHeartbeats 4000000 in
set_option maxRecDepth 100000 in
theorem tX6_shift {G : gG} {fw : Nat → Nat → Nat} {s : sG} {M : wM} (hX : wX G fw s M) {a v : Int} (ha : rng a) (hv : rng v) : wT G qX6_shift 0 0 [.ref (fw 0 0), .int (gI a), .int (gI v)] M (PX G fw M (fun x s' => (bt 0 a 3 ∧ bt (-50) v 50 ∧ x = s 4 0 a.toNat ∧ s' = ups s 4 0 a.toNat v) ∨ (¬ (bt 0 a 3 ∧ bt (-50) v 50) ∧ x = -1000 ∧ s' = s))) := by
  refine wT.intro (by decide) (Nat.le_of_ble_eq_true rfl) (fun sz => ?_)
  obtain ⟨hJ, hH, hI⟩ := id hX
  have hO : wO cntX fw M M := wO.rf
  have h0 := hX.2.2.1
  have hnm := hX.2.2.2.1
  have hsh := hX.2.2.2.2.1
  have h8 := hX.2.2.2.2.2.1
  refine v_iloadn dX6_shift_0 rfl ?_
  refine v_iconst dX6_shift_1 ?_
  refine v_iconst dX6_shift_2 ?_
  refine v_callS (tX6_outside (by omega) (by omega) (by omega)) lc_X6_69 ⟨(Nat.le_of_ble_eq_true rfl), (Nat.le_of_ble_eq_true rfl)⟩ dX6_shift_3 rfl rfl (Nat.le_of_ble_eq_true rfl) ⟨(Nat.le_of_ble_eq_true rfl), (Nat.le_of_ble_eq_true rfl)⟩ (kP fun r3 hr3 hp3 => ?_)
  refine v_if_ne 20 dX6_shift_6 (by decide) (by omega) (fun h6 => ?_) (fun h6 => ?_)
  · refine v_sipush dX6_shift_20 (by decide) ?_
    exact v_iret dX6_shift_23 rfl ⟨(Nat.le_of_ble_eq_true rfl), (Nat.le_of_ble_eq_true rfl)⟩ (by omega) ⟨s, hX, wO.rf, Or.inr ⟨by omega, by omega, rfl⟩⟩
  · refine v_iloadn dX6_shift_9 rfl ?_
    refine v_bipush dX6_shift_10 (by decide) ?_
    refine v_bipush dX6_shift_12 (by decide) ?_
    refine v_callS (tX6_outside (by omega) (by omega) (by omega)) lc_X6_69 ⟨(Nat.le_of_ble_eq_true rfl), (Nat.le_of_ble_eq_true rfl)⟩ dX6_shift_14 rfl rfl (Nat.le_of_ble_eq_true rfl) ⟨(Nat.le_of_ble_eq_true rfl), (Nat.le_of_ble_eq_true rfl)⟩ (kP fun r14 hr14 hp14 => ?_)
    refine v_if_eq 24 dX6_shift_17 (by decide) (by omega) (fun h17 => ?_) (fun h17 => ?_)
    · refine v_aloadn dX6_shift_24 rfl ?_
      refine v_get dX6_shift_25 gf_X6_22 (hH 0 0 (by decide)) rfl ?_
      refine v_iloadn dX6_shift_28 rfl ?_
      refine v_iald dX6_shift_29 (hH 4 0 (by decide)) (by omega) (by omega) (by decide) ?_
      have hna := hsh a.toNat (by omega)
      refine v_istoren dX6_shift_30 (Nat.le_of_ble_eq_true rfl) ?_
      refine v_aloadn dX6_shift_31 rfl ?_
      refine v_get dX6_shift_32 gf_X6_22 (hH 0 0 (by decide)) rfl ?_
      refine v_iloadn dX6_shift_35 rfl ?_
      refine v_iloadn dX6_shift_36 rfl ?_
      refine v_iast dX6_shift_37 (hH 4 0 (by decide)) (by omega) (by omega) (by decide) ?_
      generalize hMe37 : wup _ _ _ = M37
      have hO : wO cntX fw M M37 := by rw [← hMe37]; exact hO.up (k := 4) (i := 0) (by decide)
      obtain ⟨s37, hs37⟩ : ∃ z, z = ups s 4 0 (a.toNat) (v) := ⟨_, rfl⟩
      have hH : wH cntX (cellX G fw) fw s37 M37 := by rw [← hMe37, hs37]; exact wH.up hJ hH (k := 4) (i := 0) (a.toNat) (v) (by decide) rfl
      refine v_iloadn dX6_shift_38 rfl ?_
      exact v_iret dX6_shift_39 rfl ⟨(Nat.le_of_ble_eq_true rfl), (Nat.le_of_ble_eq_true rfl)⟩ (by omega) ⟨s37, ⟨hJ, hH, invX_h hI (fun k hk => by rw [hs37]; exact ups_kf _ hk) (fun j hj => by have h1 := hsh j hj; rw [hs37]; by_cases q : j = a.toNat <;> simp [ups, upz, q] <;> omega)⟩, hO, Or.inl ⟨by omega, by omega, rfl, hs37⟩⟩
    · refine v_sipush dX6_shift_20 (by decide) ?_
      exact v_iret dX6_shift_23 rfl ⟨(Nat.le_of_ble_eq_true rfl), (Nat.le_of_ble_eq_true rfl)⟩ (by omega) ⟨s, hX, wO.rf, Or.inr ⟨by omega, by omega, rfl⟩⟩
set_option maxHeartbeats 4000000 in
set_option maxRecDepth 100000 in
theorem tX6_noMasks {G : gG} {fw : Nat → Nat → Nat} {s : sG} {M : wM} (hX : wX G fw s M) : wT G qX6_noMasks 0 0 [.ref (fw 0 0)] M (PX G fw M (fun x s' => x = s 0 0 8 ∧ s' = ups s 0 0 8 0)) := by
  refine wT.intro (by decide) (Nat.le_of_ble_eq_true rfl) (fun sz => ?_)
  obtain ⟨hJ, hH, hI⟩ := id hX
  have hO : wO cntX fw M M := wO.rf
  have h0 := hX.2.2.1
  have hnm := hX.2.2.2.1
  have hsh := hX.2.2.2.2.1
  have h8 := hX.2.2.2.2.2.1
  refine v_aloadn dX6_noMasks_0 rfl ?_
  refine v_get dX6_noMasks_1 gf_X6_50 (hH 0 0 (by decide)) rfl ?_
  refine v_istoren dX6_noMasks_4 (Nat.le_of_ble_eq_true rfl) ?_
  refine v_aloadn dX6_noMasks_5 rfl ?_
  refine v_iconst dX6_noMasks_6 ?_
  refine v_put dX6_noMasks_7 pf_X6_50 (hH 0 0 (by decide)) rfl rfl (Nat.le_of_ble_eq_true rfl) ?_
  generalize hMe7 : wup _ _ _ = M7
  have hO : wO cntX fw M M7 := by rw [← hMe7]; exact hO.up (k := 0) (i := 0) (by decide)
  obtain ⟨s7, hs7⟩ : ∃ z, z = ups s 0 0 (8) (0) := ⟨_, rfl⟩
  have hH : wH cntX (cellX G fw) fw s7 M7 := by rw [← hMe7, hs7]; exact wH.up hJ hH (k := 0) (i := 0) (8) (0) (by decide) rfl
  refine v_iloadn dX6_noMasks_10 rfl ?_
  exact v_iret dX6_noMasks_11 rfl ⟨(Nat.le_of_ble_eq_true rfl), (Nat.le_of_ble_eq_true rfl)⟩ (by omega) ⟨s7, ⟨hJ, hH, invX_z hI (fun k hk => by rw [hs7]; exact ups_kf _ hk) (by rw [hs7]; simp [ups_at, upz] <;> omega)⟩, hO, rfl, hs7⟩
end
section
def mainEq (s s' : sG) : Prop := s' 2 = s 2 ∧ s' 3 = s 3 ∧ s' 4 = s 4 ∧ (∀ i, i < 24 → s' 10 i = s 10 i ∧ s' 11 i = s 11 i ∧ s' 12 i = s 12 i) ∧ s' 0 0 9 = s 0 0 9 ∧ s' 0 0 10 = s 0 0 10
theorem mainEq.rf {s : sG} : mainEq s s := ⟨rfl, rfl, rfl, fun _ _ => ⟨rfl, rfl, rfl⟩, rfl, rfl⟩
set_option maxHeartbeats 4000000 in
set_option maxRecDepth 100000 in
theorem tX6_mask {G : gG} {fw : Nat → Nat → Nat} {s : sG} {M : wM} (hX : wX G fw s M) {a b c : Int} (ha : rng a) (hb : rng b) (hc : rng c) : wT G qX6_mask 0 0 [.ref (fw 0 0), .int (gI a), .int (gI b), .int (gI c)] M (PX G fw M (fun x s' => (bt 0 a 11 ∧ 0 ≤ b ∧ b < c ∧ c ≤ 4000 ∧ s 0 0 8 < 10 ∧ x = s 0 0 8 + 1 ∧ s' 0 0 8 = s 0 0 8 + 1 ∧ mainEq s s') ∨ (bt 0 a 11 ∧ 0 ≤ b ∧ b < c ∧ c ≤ 4000 ∧ s 0 0 8 = 10 ∧ x = -3 ∧ s' = s) ∨ (¬ (bt 0 a 11 ∧ 0 ≤ b ∧ b < c ∧ c ≤ 4000) ∧ x = -1 ∧ s' = s))) := by
  refine wT.intro (by decide) (Nat.le_of_ble_eq_true rfl) (fun sz => ?_)
  obtain ⟨hJ, hH, hI⟩ := id hX
  have hO : wO cntX fw M M := wO.rf
  have h0 := hX.2.2.1
  have hnm := hX.2.2.2.1
  have hsh := hX.2.2.2.2.1
  have h8 := hX.2.2.2.2.2.1
  refine v_iloadn dX6_mask_0 rfl ?_
  refine v_callS (tX6_isNoSignal (by omega)) lc_X6_117 ⟨(Nat.le_of_ble_eq_true rfl), (Nat.le_of_ble_eq_true rfl)⟩ dX6_mask_1 rfl rfl (Nat.le_of_ble_eq_true rfl) ⟨(Nat.le_of_ble_eq_true rfl), (Nat.le_of_ble_eq_true rfl)⟩ (kP fun r1 hr1 hp1 => ?_)
  refine v_if_ne 23 dX6_mask_4 (by decide) (by omega) (fun h4 => ?_) (fun h4 => ?_)
  · refine v_iconst dX6_mask_23 ?_
    exact v_iret dX6_mask_24 rfl ⟨(Nat.le_of_ble_eq_true rfl), (Nat.le_of_ble_eq_true rfl)⟩ (by omega) ⟨s, hX, wO.rf, Or.inr (Or.inr ⟨by omega, by omega, rfl⟩)⟩
  · refine v_iloadn dX6_mask_7 rfl ?_
    refine v_if_lt 23 dX6_mask_8 (by decide) (by omega) (fun h8 => ?_) (fun h8 => ?_)
    · refine v_iconst dX6_mask_23 ?_
      exact v_iret dX6_mask_24 rfl ⟨(Nat.le_of_ble_eq_true rfl), (Nat.le_of_ble_eq_true rfl)⟩ (by omega) ⟨s, hX, wO.rf, Or.inr (Or.inr ⟨by omega, by omega, rfl⟩)⟩
    · refine v_iloadn dX6_mask_11 rfl ?_
      refine v_iloadn dX6_mask_12 rfl ?_
      refine v_icmp_ge 23 dX6_mask_13 (by decide) (by omega) (by omega) (fun h13 => ?_) (fun h13 => ?_)
      · refine v_iconst dX6_mask_23 ?_
        exact v_iret dX6_mask_24 rfl ⟨(Nat.le_of_ble_eq_true rfl), (Nat.le_of_ble_eq_true rfl)⟩ (by omega) ⟨s, hX, wO.rf, Or.inr (Or.inr ⟨by omega, by omega, rfl⟩)⟩
      · refine v_iloadn dX6_mask_16 rfl ?_
        refine v_sipush dX6_mask_17 (by decide) ?_
        refine v_icmp_le 25 dX6_mask_20 (by decide) (by omega) (by omega) (fun h20 => ?_) (fun h20 => ?_)
        · refine v_aloadn dX6_mask_25 rfl ?_
          refine v_get dX6_mask_26 gf_X6_50 (hH 0 0 (by decide)) rfl ?_
          refine v_bipush dX6_mask_29 (by decide) ?_
          refine v_icmp_lt 37 dX6_mask_31 (by decide) (by omega) (by omega) (fun h31 => ?_) (fun h31 => ?_)
          · refine v_aloadn dX6_mask_37 rfl ?_
            refine v_get dX6_mask_38 gf_X6_27 (hH 0 0 (by decide)) rfl ?_
            refine v_aloadn dX6_mask_41 rfl ?_
            refine v_get dX6_mask_42 gf_X6_50 (hH 0 0 (by decide)) rfl ?_
            refine v_aald (cA := G.2.2 0) (Cn := "WavePairs$Mask") dX6_mask_45 (hH 5 0 (by decide)) (by simp) (by omega) (by omega) (by decide) ?_
            refine v_iloadn dX6_mask_46 rfl ?_
            refine v_iloadn dX6_mask_47 rfl ?_
            refine v_iloadn dX6_mask_48 rfl ?_
            refine v_callV (tX2_coverTicks hX (by omega) (by omega) (by omega) (by omega)) lc_X6_120 ⟨(Nat.le_of_ble_eq_true rfl), (Nat.le_of_ble_eq_true rfl)⟩ dX6_mask_49 rfl rfl (Nat.le_of_ble_eq_true rfl) ⟨(Nat.le_of_ble_eq_true rfl), (Nat.le_of_ble_eq_true rfl)⟩ ⟨_, _, _, _, hX.2.1 13 _ (by simp [cntX]; omega), rfl⟩ (kV fun M49 hp49 => ?_)
            obtain ⟨s49, hX49, hO, hf49⟩ := hp49
            obtain ⟨hJ, hH, hI⟩ := id hX49
            have q0 : s49 0 = s 0 := by funext i'; exact hf49 0 i' (by omega) (by omega)
            have q2 : s49 2 = s 2 := by funext i'; exact hf49 2 i' (by omega) (by omega)
            have q3 : s49 3 = s 3 := by funext i'; exact hf49 3 i' (by omega) (by omega)
            have q4 : s49 4 = s 4 := by funext i'; exact hf49 4 i' (by omega) (by omega)
            have e49 : s49 0 0 8 = s 0 0 8 := by rw [q0]
            have qr : ∀ i, i < 24 → s49 10 i = s 10 i ∧ s49 11 i = s 11 i ∧ s49 12 i = s 12 i := fun i hi => ⟨hf49 10 i (by omega) (by omega), hf49 11 i (by omega) (by omega), hf49 12 i (by omega) (by omega)⟩
            refine v_aloadn dX6_mask_52 rfl ?_
            refine v_dup dX6_mask_53 rfl ?_
            refine v_get dX6_mask_54 gf_X6_50 (hH 0 0 (by decide)) rfl ?_
            refine v_iconst dX6_mask_57 ?_
            refine v_iadd dX6_mask_58 ?_
            refine v_put dX6_mask_59 pf_X6_50 (hH 0 0 (by decide)) rfl rfl (Nat.le_of_ble_eq_true rfl) ?_
            generalize hMe59 : wup _ _ _ = M59
            have hO : wO cntX fw M M59 := by rw [← hMe59]; exact hO.up (k := 0) (i := 0) (by decide)
            obtain ⟨s59, hs59⟩ : ∃ z, z = ups s49 0 0 (8) (s49 0 0 8 + 1) := ⟨_, rfl⟩
            have hH : wH cntX (cellX G fw) fw s59 M59 := by rw [← hMe59, hs59]; exact wH.up hJ hH (k := 0) (i := 0) (8) (s49 0 0 8 + 1) (by decide) rfl
            have e59 : s59 0 0 8 = s 0 0 8 + 1 := by rw [hs59, ups_at]; show s49 0 0 8 + 1 = _; omega
            refine v_aloadn dX6_mask_62 rfl ?_
            refine v_get dX6_mask_63 gf_X6_50 (hH 0 0 (by decide)) rfl ?_
            exact v_iret dX6_mask_66 rfl ⟨(Nat.le_of_ble_eq_true rfl), (Nat.le_of_ble_eq_true rfl)⟩ (by omega) ⟨s59, ⟨hJ, hH, invX_z hI (fun k hk => by rw [hs59]; exact ups_kf _ hk) (by have h0 := hI.1; rw [hs59]; simp [ups_at, upz] <;> omega)⟩, hO, Or.inl ⟨by omega, by omega, by omega, by omega, by omega, by omega, by omega, ⟨by rw [hs59, ups_kf _ (by decide), q2], by rw [hs59, ups_kf _ (by decide), q3], by rw [hs59, ups_kf _ (by decide), q4], fun i hi => ⟨by rw [hs59, ups_kf _ (by decide)]; exact (qr i hi).1, by rw [hs59, ups_kf _ (by decide)]; exact (qr i hi).2.1, by rw [hs59, ups_kf _ (by decide)]; exact (qr i hi).2.2⟩, by rw [hs59, ups_at]; show s49 0 0 9 = _; rw [q0], by rw [hs59, ups_at]; show s49 0 0 10 = _; rw [q0]⟩⟩⟩
          · refine v_bipush dX6_mask_34 (by decide) ?_
            exact v_iret dX6_mask_36 rfl ⟨(Nat.le_of_ble_eq_true rfl), (Nat.le_of_ble_eq_true rfl)⟩ (by omega) ⟨s, hX, wO.rf, Or.inr (Or.inl ⟨by omega, by omega, by omega, by omega, by omega, by omega, rfl⟩)⟩
        · refine v_iconst dX6_mask_23 ?_
          exact v_iret dX6_mask_24 rfl ⟨(Nat.le_of_ble_eq_true rfl), (Nat.le_of_ble_eq_true rfl)⟩ (by omega) ⟨s, hX, wO.rf, Or.inr (Or.inr ⟨by omega, by omega, rfl⟩)⟩
set_option maxHeartbeats 4000000 in
set_option maxRecDepth 100000 in
theorem tX6_maskWhile {G : gG} {fw : Nat → Nat → Nat} {s : sG} {M : wM} (hX : wX G fw s M) {a b c : Int} (ha : rng a) (hb : rng b) (hc : rng c) : wT G qX6_maskWhile 0 0 [.ref (fw 0 0), .int (gI a), .int (gI b), .int (gI c)] M (PX G fw M (fun x s' => (bt 0 a 11 ∧ bt 0 b 11 ∧ bt 0 c 256 ∧ s 0 0 8 < 10 ∧ x = s 0 0 8 + 1 ∧ s' 0 0 8 = s 0 0 8 + 1 ∧ mainEq s s') ∨ (bt 0 a 11 ∧ bt 0 b 11 ∧ bt 0 c 256 ∧ s 0 0 8 = 10 ∧ x = -3 ∧ s' = s) ∨ (¬ (bt 0 a 11 ∧ bt 0 b 11 ∧ bt 0 c 256) ∧ x = -1 ∧ s' = s))) := by
  refine wT.intro (by decide) (Nat.le_of_ble_eq_true rfl) (fun sz => ?_)
  obtain ⟨hJ, hH, hI⟩ := id hX
  have hO : wO cntX fw M M := wO.rf
  have h0 := hX.2.2.1
  have hnm := hX.2.2.2.1
  have hsh := hX.2.2.2.2.1
  have h8 := hX.2.2.2.2.2.1
  refine v_iloadn dX6_maskWhile_0 rfl ?_
  refine v_callS (tX6_isNoSignal (by omega)) lc_X6_117 ⟨(Nat.le_of_ble_eq_true rfl), (Nat.le_of_ble_eq_true rfl)⟩ dX6_maskWhile_1 rfl rfl (Nat.le_of_ble_eq_true rfl) ⟨(Nat.le_of_ble_eq_true rfl), (Nat.le_of_ble_eq_true rfl)⟩ (kP fun r1 hr1 hp1 => ?_)
  refine v_if_ne 21 dX6_maskWhile_4 (by decide) (by omega) (fun h4 => ?_) (fun h4 => ?_)
  · refine v_iconst dX6_maskWhile_21 ?_
    exact v_iret dX6_maskWhile_22 rfl ⟨(Nat.le_of_ble_eq_true rfl), (Nat.le_of_ble_eq_true rfl)⟩ (by omega) ⟨s, hX, wO.rf, Or.inr (Or.inr ⟨by omega, by omega, rfl⟩)⟩
  · refine v_iloadn dX6_maskWhile_7 rfl ?_
    refine v_callS (tX6_isNoSignal (by omega)) lc_X6_117 ⟨(Nat.le_of_ble_eq_true rfl), (Nat.le_of_ble_eq_true rfl)⟩ dX6_maskWhile_8 rfl rfl (Nat.le_of_ble_eq_true rfl) ⟨(Nat.le_of_ble_eq_true rfl), (Nat.le_of_ble_eq_true rfl)⟩ (kP fun r8 hr8 hp8 => ?_)
    refine v_if_ne 21 dX6_maskWhile_11 (by decide) (by omega) (fun h11 => ?_) (fun h11 => ?_)
    · refine v_iconst dX6_maskWhile_21 ?_
      exact v_iret dX6_maskWhile_22 rfl ⟨(Nat.le_of_ble_eq_true rfl), (Nat.le_of_ble_eq_true rfl)⟩ (by omega) ⟨s, hX, wO.rf, Or.inr (Or.inr ⟨by omega, by omega, rfl⟩)⟩
    · refine v_iloadn dX6_maskWhile_14 rfl ?_
      refine v_callS (tX6_isNoValue (by omega)) lc_X6_73 ⟨(Nat.le_of_ble_eq_true rfl), (Nat.le_of_ble_eq_true rfl)⟩ dX6_maskWhile_15 rfl rfl (Nat.le_of_ble_eq_true rfl) ⟨(Nat.le_of_ble_eq_true rfl), (Nat.le_of_ble_eq_true rfl)⟩ (kP fun r15 hr15 hp15 => ?_)
      refine v_if_eq 23 dX6_maskWhile_18 (by decide) (by omega) (fun h18 => ?_) (fun h18 => ?_)
      · refine v_aloadn dX6_maskWhile_23 rfl ?_
        refine v_get dX6_maskWhile_24 gf_X6_50 (hH 0 0 (by decide)) rfl ?_
        refine v_bipush dX6_maskWhile_27 (by decide) ?_
        refine v_icmp_lt 35 dX6_maskWhile_29 (by decide) (by omega) (by omega) (fun h29 => ?_) (fun h29 => ?_)
        · refine v_aloadn dX6_maskWhile_35 rfl ?_
          refine v_get dX6_maskWhile_36 gf_X6_27 (hH 0 0 (by decide)) rfl ?_
          refine v_aloadn dX6_maskWhile_39 rfl ?_
          refine v_get dX6_maskWhile_40 gf_X6_50 (hH 0 0 (by decide)) rfl ?_
          refine v_aald (cA := G.2.2 0) (Cn := "WavePairs$Mask") dX6_maskWhile_43 (hH 5 0 (by decide)) (by simp) (by omega) (by omega) (by decide) ?_
          refine v_iloadn dX6_maskWhile_44 rfl ?_
          refine v_aloadn dX6_maskWhile_45 rfl ?_
          refine v_iconst dX6_maskWhile_46 ?_
          refine v_iloadn dX6_maskWhile_47 rfl ?_
          refine v_callV (tX6_rowOf hX (by omega) (by omega)) lc_X6_77 ⟨(Nat.le_of_ble_eq_true rfl), (Nat.le_of_ble_eq_true rfl)⟩ dX6_maskWhile_48 rfl rfl (Nat.le_of_ble_eq_true rfl) ⟨(Nat.le_of_ble_eq_true rfl), (Nat.le_of_ble_eq_true rfl)⟩ ⟨_, _, _, _, (hH 0 0 (by decide)), rfl⟩ (kRp fun r48 hp48 => ?_)
          subst hp48
          refine v_iloadn dX6_maskWhile_51 rfl ?_
          refine v_callV (tX2_coverWhile hX (by omega) (by omega) (by omega) (by omega)) lc_X6_124 ⟨(Nat.le_of_ble_eq_true rfl), (Nat.le_of_ble_eq_true rfl)⟩ dX6_maskWhile_52 rfl rfl (Nat.le_of_ble_eq_true rfl) ⟨(Nat.le_of_ble_eq_true rfl), (Nat.le_of_ble_eq_true rfl)⟩ ⟨_, _, _, _, hX.2.1 13 _ (by simp [cntX]; omega), rfl⟩ (kV fun M52 hp52 => ?_)
          obtain ⟨s52, hX52, hO, hf52⟩ := hp52
          obtain ⟨hJ, hH, hI⟩ := id hX52
          have q0 : s52 0 = s 0 := by rw [hf52, ups_kf _ (by decide), ups_kf _ (by decide), ups_kf _ (by decide)]
          have q2 : s52 2 = s 2 := by rw [hf52, ups_kf _ (by decide), ups_kf _ (by decide), ups_kf _ (by decide)]
          have q3 : s52 3 = s 3 := by rw [hf52, ups_kf _ (by decide), ups_kf _ (by decide), ups_kf _ (by decide)]
          have q4 : s52 4 = s 4 := by rw [hf52, ups_kf _ (by decide), ups_kf _ (by decide), ups_kf _ (by decide)]
          have e52 : s52 0 0 8 = s 0 0 8 := by rw [q0]
          have qr : ∀ i, i < 24 → s52 10 i = s 10 i ∧ s52 11 i = s 11 i ∧ s52 12 i = s 12 i := fun i hi => ⟨by rw [hf52, ups_kf _ (by decide), ups_kf _ (by decide), ups_kf _ (by decide)], by rw [hf52, ups_kf _ (by decide), ups_kf _ (by decide), ups_kf _ (by decide)], by rw [hf52, ups_kf _ (by decide), ups_kf _ (by decide), ups_kf _ (by decide)]⟩
          refine v_aloadn dX6_maskWhile_55 rfl ?_
          refine v_dup dX6_maskWhile_56 rfl ?_
          refine v_get dX6_maskWhile_57 gf_X6_50 (hH 0 0 (by decide)) rfl ?_
          refine v_iconst dX6_maskWhile_60 ?_
          refine v_iadd dX6_maskWhile_61 ?_
          refine v_put dX6_maskWhile_62 pf_X6_50 (hH 0 0 (by decide)) rfl rfl (Nat.le_of_ble_eq_true rfl) ?_
          generalize hMe62 : wup _ _ _ = M62
          have hO : wO cntX fw M M62 := by rw [← hMe62]; exact hO.up (k := 0) (i := 0) (by decide)
          obtain ⟨s62, hs62⟩ : ∃ z, z = ups s52 0 0 (8) (s52 0 0 8 + 1) := ⟨_, rfl⟩
          have hH : wH cntX (cellX G fw) fw s62 M62 := by rw [← hMe62, hs62]; exact wH.up hJ hH (k := 0) (i := 0) (8) (s52 0 0 8 + 1) (by decide) rfl
          have e62 : s62 0 0 8 = s 0 0 8 + 1 := by rw [hs62, ups_at]; show s52 0 0 8 + 1 = _; omega
          refine v_aloadn dX6_maskWhile_65 rfl ?_
          refine v_get dX6_maskWhile_66 gf_X6_50 (hH 0 0 (by decide)) rfl ?_
          exact v_iret dX6_maskWhile_69 rfl ⟨(Nat.le_of_ble_eq_true rfl), (Nat.le_of_ble_eq_true rfl)⟩ (by omega) ⟨s62, ⟨hJ, hH, invX_z hI (fun k hk => by rw [hs62]; exact ups_kf _ hk) (by have h0 := hI.1; rw [hs62]; simp [ups_at, upz] <;> omega)⟩, hO, Or.inl ⟨by omega, by omega, by omega, by omega, by omega, by omega, ⟨by rw [hs62, ups_kf _ (by decide), q2], by rw [hs62, ups_kf _ (by decide), q3], by rw [hs62, ups_kf _ (by decide), q4], fun i hi => ⟨by rw [hs62, ups_kf _ (by decide)]; exact (qr i hi).1, by rw [hs62, ups_kf _ (by decide)]; exact (qr i hi).2.1, by rw [hs62, ups_kf _ (by decide)]; exact (qr i hi).2.2⟩, by rw [hs62, ups_at]; show s52 0 0 9 = _; rw [q0], by rw [hs62, ups_at]; show s52 0 0 10 = _; rw [q0]⟩⟩⟩
        · refine v_bipush dX6_maskWhile_32 (by decide) ?_
          exact v_iret dX6_maskWhile_34 rfl ⟨(Nat.le_of_ble_eq_true rfl), (Nat.le_of_ble_eq_true rfl)⟩ (by omega) ⟨s, hX, wO.rf, Or.inr (Or.inl ⟨by omega, by omega, by omega, by omega, by omega, rfl⟩)⟩
      · refine v_iconst dX6_maskWhile_21 ?_
        exact v_iret dX6_maskWhile_22 rfl ⟨(Nat.le_of_ble_eq_true rfl), (Nat.le_of_ble_eq_true rfl)⟩ (by omega) ⟨s, hX, wO.rf, Or.inr (Or.inr ⟨by omega, by omega, rfl⟩)⟩
set_option maxHeartbeats 4000000 in
set_option maxRecDepth 100000 in
theorem tX6_channel {G : gG} {fw : Nat → Nat → Nat} {s : sG} {M : wM} (hX : wX G fw s M) {a b c d e : Int} (ha : rng a) (hb : rng b) (hc : rng c) (hd : rng d) (he : rng e) : wT G qX6_channel 0 0 [.ref (fw 0 0), .int (gI a), .int (gI b), .int (gI c), .int (gI d), .int (gI e)] M (PX G fw M (fun x s' => ((bt 0 a 3 ∧ bt 0 b 11 ∧ bt 0 c 11 ∧ bt 0 d 11 ∧ bt 0 e 11) ∧ x = 0 ∧ s' = ups (ups (ups (ups (ups s 14 a.toNat 0 1) 14 a.toNat 1 b) 14 a.toNat 2 c) 14 a.toNat 3 d) 14 a.toNat 4 e) ∨ (¬ (bt 0 a 3 ∧ bt 0 b 11 ∧ bt 0 c 11 ∧ bt 0 d 11 ∧ bt 0 e 11) ∧ x = -1 ∧ s' = s))) := by
  refine wT.intro (by decide) (Nat.le_of_ble_eq_true rfl) (fun sz => ?_)
  obtain ⟨hJ, hH, hI⟩ := id hX
  have hO : wO cntX fw M M := wO.rf
  have h0 := hX.2.2.1
  have hnm := hX.2.2.2.1
  have hsh := hX.2.2.2.2.1
  have h8 := hX.2.2.2.2.2.1
  refine v_iloadn dX6_channel_0 rfl ?_
  refine v_iconst dX6_channel_1 ?_
  refine v_iconst dX6_channel_2 ?_
  refine v_callS (tX6_outside (by omega) (by omega) (by omega)) lc_X6_69 ⟨(Nat.le_of_ble_eq_true rfl), (Nat.le_of_ble_eq_true rfl)⟩ dX6_channel_3 rfl rfl (Nat.le_of_ble_eq_true rfl) ⟨(Nat.le_of_ble_eq_true rfl), (Nat.le_of_ble_eq_true rfl)⟩ (kP fun r3 hr3 hp3 => ?_)
  refine v_if_ne 39 dX6_channel_6 (by decide) (by omega) (fun h6 => ?_) (fun h6 => ?_)
  · refine v_iconst dX6_channel_39 ?_
    exact v_iret dX6_channel_40 rfl ⟨(Nat.le_of_ble_eq_true rfl), (Nat.le_of_ble_eq_true rfl)⟩ (by omega) ⟨s, hX, wO.rf, Or.inr ⟨by omega, by omega, rfl⟩⟩
  · refine v_iloadn dX6_channel_9 rfl ?_
    refine v_callS (tX6_isNoSignal (by omega)) lc_X6_117 ⟨(Nat.le_of_ble_eq_true rfl), (Nat.le_of_ble_eq_true rfl)⟩ dX6_channel_10 rfl rfl (Nat.le_of_ble_eq_true rfl) ⟨(Nat.le_of_ble_eq_true rfl), (Nat.le_of_ble_eq_true rfl)⟩ (kP fun r10 hr10 hp10 => ?_)
    refine v_if_ne 39 dX6_channel_13 (by decide) (by omega) (fun h13 => ?_) (fun h13 => ?_)
    · refine v_iconst dX6_channel_39 ?_
      exact v_iret dX6_channel_40 rfl ⟨(Nat.le_of_ble_eq_true rfl), (Nat.le_of_ble_eq_true rfl)⟩ (by omega) ⟨s, hX, wO.rf, Or.inr ⟨by omega, by omega, rfl⟩⟩
    · refine v_iloadn dX6_channel_16 rfl ?_
      refine v_callS (tX6_isNoSignal (by omega)) lc_X6_117 ⟨(Nat.le_of_ble_eq_true rfl), (Nat.le_of_ble_eq_true rfl)⟩ dX6_channel_17 rfl rfl (Nat.le_of_ble_eq_true rfl) ⟨(Nat.le_of_ble_eq_true rfl), (Nat.le_of_ble_eq_true rfl)⟩ (kP fun r17 hr17 hp17 => ?_)
      refine v_if_ne 39 dX6_channel_20 (by decide) (by omega) (fun h20 => ?_) (fun h20 => ?_)
      · refine v_iconst dX6_channel_39 ?_
        exact v_iret dX6_channel_40 rfl ⟨(Nat.le_of_ble_eq_true rfl), (Nat.le_of_ble_eq_true rfl)⟩ (by omega) ⟨s, hX, wO.rf, Or.inr ⟨by omega, by omega, rfl⟩⟩
      · refine v_iload dX6_channel_23 rfl ?_
        refine v_callS (tX6_isNoSignal (by omega)) lc_X6_117 ⟨(Nat.le_of_ble_eq_true rfl), (Nat.le_of_ble_eq_true rfl)⟩ dX6_channel_25 rfl rfl (Nat.le_of_ble_eq_true rfl) ⟨(Nat.le_of_ble_eq_true rfl), (Nat.le_of_ble_eq_true rfl)⟩ (kP fun r25 hr25 hp25 => ?_)
        refine v_if_ne 39 dX6_channel_28 (by decide) (by omega) (fun h28 => ?_) (fun h28 => ?_)
        · refine v_iconst dX6_channel_39 ?_
          exact v_iret dX6_channel_40 rfl ⟨(Nat.le_of_ble_eq_true rfl), (Nat.le_of_ble_eq_true rfl)⟩ (by omega) ⟨s, hX, wO.rf, Or.inr ⟨by omega, by omega, rfl⟩⟩
        · refine v_iload dX6_channel_31 rfl ?_
          refine v_callS (tX6_isNoSignal (by omega)) lc_X6_117 ⟨(Nat.le_of_ble_eq_true rfl), (Nat.le_of_ble_eq_true rfl)⟩ dX6_channel_33 rfl rfl (Nat.le_of_ble_eq_true rfl) ⟨(Nat.le_of_ble_eq_true rfl), (Nat.le_of_ble_eq_true rfl)⟩ (kP fun r33 hr33 hp33 => ?_)
          refine v_if_eq 41 dX6_channel_36 (by decide) (by omega) (fun h36 => ?_) (fun h36 => ?_)
          · refine v_aloadn dX6_channel_41 rfl ?_
            refine v_get dX6_channel_42 gf_X6_33 (hH 0 0 (by decide)) rfl ?_
            refine v_iloadn dX6_channel_45 rfl ?_
            refine v_aald (cA := G.2.2 0) (Cn := "WavePairs$Channel") dX6_channel_46 (hH 6 0 (by decide)) (by simp) (by omega) (by omega) (by decide) ?_
            refine v_iloadn dX6_channel_47 rfl ?_
            refine v_iloadn dX6_channel_48 rfl ?_
            refine v_iload dX6_channel_49 rfl ?_
            refine v_iload dX6_channel_51 rfl ?_
            refine v_callV (tX0_tell hX (by omega) (by omega) (by omega) (by omega) (by omega)) lc_X6_177 ⟨(Nat.le_of_ble_eq_true rfl), (Nat.le_of_ble_eq_true rfl)⟩ dX6_channel_53 rfl rfl (Nat.le_of_ble_eq_true rfl) ⟨(Nat.le_of_ble_eq_true rfl), (Nat.le_of_ble_eq_true rfl)⟩ ⟨_, _, _, _, hX.2.1 14 _ (by simp [cntX]; omega), rfl⟩ (kV fun M53 hp53 => ?_)
            obtain ⟨s53, hX53, hO53, hs53⟩ := hp53
            refine v_iconst dX6_channel_56 ?_
            exact v_iret dX6_channel_57 rfl ⟨(Nat.le_of_ble_eq_true rfl), (Nat.le_of_ble_eq_true rfl)⟩ (by omega) ⟨s53, hX53, hO53, Or.inl ⟨by omega, rfl, hs53⟩⟩
          · refine v_iconst dX6_channel_39 ?_
            exact v_iret dX6_channel_40 rfl ⟨(Nat.le_of_ble_eq_true rfl), (Nat.le_of_ble_eq_true rfl)⟩ (by omega) ⟨s, hX, wO.rf, Or.inr ⟨by omega, by omega, rfl⟩⟩
set_option maxHeartbeats 4000000 in
set_option maxRecDepth 100000 in
theorem tX6_gate {G : gG} {fw : Nat → Nat → Nat} {s : sG} {M : wM} (hX : wX G fw s M) {a k b c : Int} (ha : rng a) (hk : rng k) (hb : rng b) (hc : rng c) : wT G qX6_gate 0 0 [.ref (fw 0 0), .int (gI a), .int (gI k), .int (gI b), .int (gI c)] M (PX G fw M (fun x s' => ((bt 0 a 11 ∧ bt 0 k 6 ∧ bt 0 b 11 ∧ ¬ (k ≠ 0 ∧ b = a) ∧ ¬ (1 < k ∧ (¬ bt 0 c 11 ∨ c = a))) ∧ x = s 15 a.toNat 0 ∧ s' = ups (ups (ups s 15 a.toNat 0 k) 15 a.toNat 1 b) 15 a.toNat 2 (if 1 < k then c else b)) ∨ (¬ (bt 0 a 11 ∧ bt 0 k 6 ∧ bt 0 b 11 ∧ ¬ (k ≠ 0 ∧ b = a) ∧ ¬ (1 < k ∧ (¬ bt 0 c 11 ∨ c = a))) ∧ x = -1 ∧ s' = s))) := by
  refine wT.intro (by decide) (Nat.le_of_ble_eq_true rfl) (fun sz => ?_)
  obtain ⟨hJ, hH, hI⟩ := id hX
  have hO : wO cntX fw M M := wO.rf
  have h0 := hX.2.2.1
  have hnm := hX.2.2.2.1
  have hsh := hX.2.2.2.2.1
  have h8 := hX.2.2.2.2.2.1
  refine v_iloadn dX6_gate_0 rfl ?_
  refine v_callS (tX6_isNoSignal (by omega)) lc_X6_117 ⟨(Nat.le_of_ble_eq_true rfl), (Nat.le_of_ble_eq_true rfl)⟩ dX6_gate_1 rfl rfl (Nat.le_of_ble_eq_true rfl) ⟨(Nat.le_of_ble_eq_true rfl), (Nat.le_of_ble_eq_true rfl)⟩ (kP fun r1 hr1 hp1 => ?_)
  refine v_if_ne 24 dX6_gate_4 (by decide) (by omega) (fun h4 => ?_) (fun h4 => ?_)
  · refine v_iconst dX6_gate_24 ?_
    exact v_iret dX6_gate_25 rfl ⟨(Nat.le_of_ble_eq_true rfl), (Nat.le_of_ble_eq_true rfl)⟩ (by omega) ⟨s, hX, wO.rf, Or.inr ⟨by omega, by omega, rfl⟩⟩
  · refine v_iloadn dX6_gate_7 rfl ?_
    refine v_iconst dX6_gate_8 ?_
    refine v_bipush dX6_gate_9 (by decide) ?_
    refine v_callS (tX6_outside (by omega) (by omega) (by omega)) lc_X6_69 ⟨(Nat.le_of_ble_eq_true rfl), (Nat.le_of_ble_eq_true rfl)⟩ dX6_gate_11 rfl rfl (Nat.le_of_ble_eq_true rfl) ⟨(Nat.le_of_ble_eq_true rfl), (Nat.le_of_ble_eq_true rfl)⟩ (kP fun r11 hr11 hp11 => ?_)
    refine v_if_ne 24 dX6_gate_14 (by decide) (by omega) (fun h14 => ?_) (fun h14 => ?_)
    · refine v_iconst dX6_gate_24 ?_
      exact v_iret dX6_gate_25 rfl ⟨(Nat.le_of_ble_eq_true rfl), (Nat.le_of_ble_eq_true rfl)⟩ (by omega) ⟨s, hX, wO.rf, Or.inr ⟨by omega, by omega, rfl⟩⟩
    · refine v_iloadn dX6_gate_17 rfl ?_
      refine v_callS (tX6_isNoSignal (by omega)) lc_X6_117 ⟨(Nat.le_of_ble_eq_true rfl), (Nat.le_of_ble_eq_true rfl)⟩ dX6_gate_18 rfl rfl (Nat.le_of_ble_eq_true rfl) ⟨(Nat.le_of_ble_eq_true rfl), (Nat.le_of_ble_eq_true rfl)⟩ (kP fun r18 hr18 hp18 => ?_)
      refine v_if_eq 26 dX6_gate_21 (by decide) (by omega) (fun h21 => ?_) (fun h21 => ?_)
      · refine v_iloadn dX6_gate_26 rfl ?_
        refine v_if_eq 37 dX6_gate_27 (by decide) (by omega) (fun h27 => ?_) (fun h27 => ?_)
        · refine v_iloadn dX6_gate_37 rfl ?_
          refine v_iconst dX6_gate_38 ?_
          refine v_icmp_le 58 dX6_gate_39 (by decide) (by omega) (by omega) (fun h39 => ?_) (fun h39 => ?_)
          · refine v_aloadn dX6_gate_58 rfl ?_
            refine v_get dX6_gate_59 gf_X6_39 (hH 0 0 (by decide)) rfl ?_
            refine v_iloadn dX6_gate_62 rfl ?_
            refine v_aald (cA := G.2.2 0) (Cn := "WavePairs$Gate") dX6_gate_63 (hH 7 0 (by decide)) (by simp) (by omega) (by omega) (by decide) ?_
            refine v_getN dX6_gate_64 gf_X6_227 (hH 15 _ (by simp [cntX]; omega)) rfl ?_
            have hg := hX.2.2.2.2.2.2.2.2.2.1 a.toNat (by omega)
            refine v_istore dX6_gate_67 (Nat.le_of_ble_eq_true rfl) ?_
            refine v_aloadn dX6_gate_69 rfl ?_
            refine v_get dX6_gate_70 gf_X6_39 (hH 0 0 (by decide)) rfl ?_
            refine v_iloadn dX6_gate_73 rfl ?_
            refine v_aald (cA := G.2.2 0) (Cn := "WavePairs$Gate") dX6_gate_74 (hH 7 0 (by decide)) (by simp) (by omega) (by omega) (by decide) ?_
            refine v_iloadn dX6_gate_75 rfl ?_
            refine v_iloadn dX6_gate_76 rfl ?_
            refine v_iloadn dX6_gate_77 rfl ?_
            refine v_iconst dX6_gate_78 ?_
            refine v_icmp_le 87 dX6_gate_79 (by decide) (by omega) (by omega) (fun h79 => ?_) (fun h79 => ?_)
            · refine v_iloadn dX6_gate_87 rfl ?_
              refine v_callV (tX1_tell hX (by omega) (by omega) (by omega) (by omega)) lc_X6_230 ⟨(Nat.le_of_ble_eq_true rfl), (Nat.le_of_ble_eq_true rfl)⟩ dX6_gate_88 rfl rfl (Nat.le_of_ble_eq_true rfl) ⟨(Nat.le_of_ble_eq_true rfl), (Nat.le_of_ble_eq_true rfl)⟩ ⟨_, _, _, _, hX.2.1 15 _ (by simp [cntX]; omega), rfl⟩ (kV fun M88 hp88 => ?_)
              obtain ⟨s88, hX88, hO88, hs88⟩ := hp88
              refine v_iload dX6_gate_91 rfl ?_
              exact v_iret dX6_gate_93 rfl ⟨(Nat.le_of_ble_eq_true rfl), (Nat.le_of_ble_eq_true rfl)⟩ (by omega) ⟨s88, hX88, hO88, Or.inl ⟨by omega, rfl, by rw [hs88]; congr 1; split <;> omega⟩⟩
            · refine v_iload dX6_gate_82 rfl ?_
              refine v_goto 88 dX6_gate_84 (by decide) ?_
              refine v_callV (tX1_tell hX (by omega) (by omega) (by omega) (by omega)) lc_X6_230 ⟨(Nat.le_of_ble_eq_true rfl), (Nat.le_of_ble_eq_true rfl)⟩ dX6_gate_88 rfl rfl (Nat.le_of_ble_eq_true rfl) ⟨(Nat.le_of_ble_eq_true rfl), (Nat.le_of_ble_eq_true rfl)⟩ ⟨_, _, _, _, hX.2.1 15 _ (by simp [cntX]; omega), rfl⟩ (kV fun M88 hp88 => ?_)
              obtain ⟨s88, hX88, hO88, hs88⟩ := hp88
              refine v_iload dX6_gate_91 rfl ?_
              exact v_iret dX6_gate_93 rfl ⟨(Nat.le_of_ble_eq_true rfl), (Nat.le_of_ble_eq_true rfl)⟩ (by omega) ⟨s88, hX88, hO88, Or.inl ⟨by omega, rfl, by rw [hs88]; congr 1; split <;> omega⟩⟩
          · refine v_iload dX6_gate_42 rfl ?_
            refine v_callS (tX6_isNoSignal (by omega)) lc_X6_117 ⟨(Nat.le_of_ble_eq_true rfl), (Nat.le_of_ble_eq_true rfl)⟩ dX6_gate_44 rfl rfl (Nat.le_of_ble_eq_true rfl) ⟨(Nat.le_of_ble_eq_true rfl), (Nat.le_of_ble_eq_true rfl)⟩ (kP fun r44 hr44 hp44 => ?_)
            refine v_if_ne 56 dX6_gate_47 (by decide) (by omega) (fun h47 => ?_) (fun h47 => ?_)
            · refine v_iconst dX6_gate_56 ?_
              exact v_iret dX6_gate_57 rfl ⟨(Nat.le_of_ble_eq_true rfl), (Nat.le_of_ble_eq_true rfl)⟩ (by omega) ⟨s, hX, wO.rf, Or.inr ⟨by omega, by omega, rfl⟩⟩
            · refine v_iload dX6_gate_50 rfl ?_
              refine v_iloadn dX6_gate_52 rfl ?_
              refine v_icmp_ne 58 dX6_gate_53 (by decide) (by omega) (by omega) (fun h53 => ?_) (fun h53 => ?_)
              · refine v_aloadn dX6_gate_58 rfl ?_
                refine v_get dX6_gate_59 gf_X6_39 (hH 0 0 (by decide)) rfl ?_
                refine v_iloadn dX6_gate_62 rfl ?_
                refine v_aald (cA := G.2.2 0) (Cn := "WavePairs$Gate") dX6_gate_63 (hH 7 0 (by decide)) (by simp) (by omega) (by omega) (by decide) ?_
                refine v_getN dX6_gate_64 gf_X6_227 (hH 15 _ (by simp [cntX]; omega)) rfl ?_
                have hg := hX.2.2.2.2.2.2.2.2.2.1 a.toNat (by omega)
                refine v_istore dX6_gate_67 (Nat.le_of_ble_eq_true rfl) ?_
                refine v_aloadn dX6_gate_69 rfl ?_
                refine v_get dX6_gate_70 gf_X6_39 (hH 0 0 (by decide)) rfl ?_
                refine v_iloadn dX6_gate_73 rfl ?_
                refine v_aald (cA := G.2.2 0) (Cn := "WavePairs$Gate") dX6_gate_74 (hH 7 0 (by decide)) (by simp) (by omega) (by omega) (by decide) ?_
                refine v_iloadn dX6_gate_75 rfl ?_
                refine v_iloadn dX6_gate_76 rfl ?_
                refine v_iloadn dX6_gate_77 rfl ?_
                refine v_iconst dX6_gate_78 ?_
                refine v_icmp_le 87 dX6_gate_79 (by decide) (by omega) (by omega) (fun h79 => ?_) (fun h79 => ?_)
                · refine v_iloadn dX6_gate_87 rfl ?_
                  refine v_callV (tX1_tell hX (by omega) (by omega) (by omega) (by omega)) lc_X6_230 ⟨(Nat.le_of_ble_eq_true rfl), (Nat.le_of_ble_eq_true rfl)⟩ dX6_gate_88 rfl rfl (Nat.le_of_ble_eq_true rfl) ⟨(Nat.le_of_ble_eq_true rfl), (Nat.le_of_ble_eq_true rfl)⟩ ⟨_, _, _, _, hX.2.1 15 _ (by simp [cntX]; omega), rfl⟩ (kV fun M88 hp88 => ?_)
                  obtain ⟨s88, hX88, hO88, hs88⟩ := hp88
                  refine v_iload dX6_gate_91 rfl ?_
                  exact v_iret dX6_gate_93 rfl ⟨(Nat.le_of_ble_eq_true rfl), (Nat.le_of_ble_eq_true rfl)⟩ (by omega) ⟨s88, hX88, hO88, Or.inl ⟨by omega, rfl, by rw [hs88]; congr 1; split <;> omega⟩⟩
                · refine v_iload dX6_gate_82 rfl ?_
                  refine v_goto 88 dX6_gate_84 (by decide) ?_
                  refine v_callV (tX1_tell hX (by omega) (by omega) (by omega) (by omega)) lc_X6_230 ⟨(Nat.le_of_ble_eq_true rfl), (Nat.le_of_ble_eq_true rfl)⟩ dX6_gate_88 rfl rfl (Nat.le_of_ble_eq_true rfl) ⟨(Nat.le_of_ble_eq_true rfl), (Nat.le_of_ble_eq_true rfl)⟩ ⟨_, _, _, _, hX.2.1 15 _ (by simp [cntX]; omega), rfl⟩ (kV fun M88 hp88 => ?_)
                  obtain ⟨s88, hX88, hO88, hs88⟩ := hp88
                  refine v_iload dX6_gate_91 rfl ?_
                  exact v_iret dX6_gate_93 rfl ⟨(Nat.le_of_ble_eq_true rfl), (Nat.le_of_ble_eq_true rfl)⟩ (by omega) ⟨s88, hX88, hO88, Or.inl ⟨by omega, rfl, by rw [hs88]; congr 1; split <;> omega⟩⟩
              · refine v_iconst dX6_gate_56 ?_
                exact v_iret dX6_gate_57 rfl ⟨(Nat.le_of_ble_eq_true rfl), (Nat.le_of_ble_eq_true rfl)⟩ (by omega) ⟨s, hX, wO.rf, Or.inr ⟨by omega, by omega, rfl⟩⟩
        · refine v_iloadn dX6_gate_30 rfl ?_
          refine v_iloadn dX6_gate_31 rfl ?_
          refine v_icmp_ne 37 dX6_gate_32 (by decide) (by omega) (by omega) (fun h32 => ?_) (fun h32 => ?_)
          · refine v_iloadn dX6_gate_37 rfl ?_
            refine v_iconst dX6_gate_38 ?_
            refine v_icmp_le 58 dX6_gate_39 (by decide) (by omega) (by omega) (fun h39 => ?_) (fun h39 => ?_)
            · refine v_aloadn dX6_gate_58 rfl ?_
              refine v_get dX6_gate_59 gf_X6_39 (hH 0 0 (by decide)) rfl ?_
              refine v_iloadn dX6_gate_62 rfl ?_
              refine v_aald (cA := G.2.2 0) (Cn := "WavePairs$Gate") dX6_gate_63 (hH 7 0 (by decide)) (by simp) (by omega) (by omega) (by decide) ?_
              refine v_getN dX6_gate_64 gf_X6_227 (hH 15 _ (by simp [cntX]; omega)) rfl ?_
              have hg := hX.2.2.2.2.2.2.2.2.2.1 a.toNat (by omega)
              refine v_istore dX6_gate_67 (Nat.le_of_ble_eq_true rfl) ?_
              refine v_aloadn dX6_gate_69 rfl ?_
              refine v_get dX6_gate_70 gf_X6_39 (hH 0 0 (by decide)) rfl ?_
              refine v_iloadn dX6_gate_73 rfl ?_
              refine v_aald (cA := G.2.2 0) (Cn := "WavePairs$Gate") dX6_gate_74 (hH 7 0 (by decide)) (by simp) (by omega) (by omega) (by decide) ?_
              refine v_iloadn dX6_gate_75 rfl ?_
              refine v_iloadn dX6_gate_76 rfl ?_
              refine v_iloadn dX6_gate_77 rfl ?_
              refine v_iconst dX6_gate_78 ?_
              refine v_icmp_le 87 dX6_gate_79 (by decide) (by omega) (by omega) (fun h79 => ?_) (fun h79 => ?_)
              · refine v_iloadn dX6_gate_87 rfl ?_
                refine v_callV (tX1_tell hX (by omega) (by omega) (by omega) (by omega)) lc_X6_230 ⟨(Nat.le_of_ble_eq_true rfl), (Nat.le_of_ble_eq_true rfl)⟩ dX6_gate_88 rfl rfl (Nat.le_of_ble_eq_true rfl) ⟨(Nat.le_of_ble_eq_true rfl), (Nat.le_of_ble_eq_true rfl)⟩ ⟨_, _, _, _, hX.2.1 15 _ (by simp [cntX]; omega), rfl⟩ (kV fun M88 hp88 => ?_)
                obtain ⟨s88, hX88, hO88, hs88⟩ := hp88
                refine v_iload dX6_gate_91 rfl ?_
                exact v_iret dX6_gate_93 rfl ⟨(Nat.le_of_ble_eq_true rfl), (Nat.le_of_ble_eq_true rfl)⟩ (by omega) ⟨s88, hX88, hO88, Or.inl ⟨by omega, rfl, by rw [hs88]; congr 1; split <;> omega⟩⟩
              · refine v_iload dX6_gate_82 rfl ?_
                refine v_goto 88 dX6_gate_84 (by decide) ?_
                refine v_callV (tX1_tell hX (by omega) (by omega) (by omega) (by omega)) lc_X6_230 ⟨(Nat.le_of_ble_eq_true rfl), (Nat.le_of_ble_eq_true rfl)⟩ dX6_gate_88 rfl rfl (Nat.le_of_ble_eq_true rfl) ⟨(Nat.le_of_ble_eq_true rfl), (Nat.le_of_ble_eq_true rfl)⟩ ⟨_, _, _, _, hX.2.1 15 _ (by simp [cntX]; omega), rfl⟩ (kV fun M88 hp88 => ?_)
                obtain ⟨s88, hX88, hO88, hs88⟩ := hp88
                refine v_iload dX6_gate_91 rfl ?_
                exact v_iret dX6_gate_93 rfl ⟨(Nat.le_of_ble_eq_true rfl), (Nat.le_of_ble_eq_true rfl)⟩ (by omega) ⟨s88, hX88, hO88, Or.inl ⟨by omega, rfl, by rw [hs88]; congr 1; split <;> omega⟩⟩
            · refine v_iload dX6_gate_42 rfl ?_
              refine v_callS (tX6_isNoSignal (by omega)) lc_X6_117 ⟨(Nat.le_of_ble_eq_true rfl), (Nat.le_of_ble_eq_true rfl)⟩ dX6_gate_44 rfl rfl (Nat.le_of_ble_eq_true rfl) ⟨(Nat.le_of_ble_eq_true rfl), (Nat.le_of_ble_eq_true rfl)⟩ (kP fun r44 hr44 hp44 => ?_)
              refine v_if_ne 56 dX6_gate_47 (by decide) (by omega) (fun h47 => ?_) (fun h47 => ?_)
              · refine v_iconst dX6_gate_56 ?_
                exact v_iret dX6_gate_57 rfl ⟨(Nat.le_of_ble_eq_true rfl), (Nat.le_of_ble_eq_true rfl)⟩ (by omega) ⟨s, hX, wO.rf, Or.inr ⟨by omega, by omega, rfl⟩⟩
              · refine v_iload dX6_gate_50 rfl ?_
                refine v_iloadn dX6_gate_52 rfl ?_
                refine v_icmp_ne 58 dX6_gate_53 (by decide) (by omega) (by omega) (fun h53 => ?_) (fun h53 => ?_)
                · refine v_aloadn dX6_gate_58 rfl ?_
                  refine v_get dX6_gate_59 gf_X6_39 (hH 0 0 (by decide)) rfl ?_
                  refine v_iloadn dX6_gate_62 rfl ?_
                  refine v_aald (cA := G.2.2 0) (Cn := "WavePairs$Gate") dX6_gate_63 (hH 7 0 (by decide)) (by simp) (by omega) (by omega) (by decide) ?_
                  refine v_getN dX6_gate_64 gf_X6_227 (hH 15 _ (by simp [cntX]; omega)) rfl ?_
                  have hg := hX.2.2.2.2.2.2.2.2.2.1 a.toNat (by omega)
                  refine v_istore dX6_gate_67 (Nat.le_of_ble_eq_true rfl) ?_
                  refine v_aloadn dX6_gate_69 rfl ?_
                  refine v_get dX6_gate_70 gf_X6_39 (hH 0 0 (by decide)) rfl ?_
                  refine v_iloadn dX6_gate_73 rfl ?_
                  refine v_aald (cA := G.2.2 0) (Cn := "WavePairs$Gate") dX6_gate_74 (hH 7 0 (by decide)) (by simp) (by omega) (by omega) (by decide) ?_
                  refine v_iloadn dX6_gate_75 rfl ?_
                  refine v_iloadn dX6_gate_76 rfl ?_
                  refine v_iloadn dX6_gate_77 rfl ?_
                  refine v_iconst dX6_gate_78 ?_
                  refine v_icmp_le 87 dX6_gate_79 (by decide) (by omega) (by omega) (fun h79 => ?_) (fun h79 => ?_)
                  · refine v_iloadn dX6_gate_87 rfl ?_
                    refine v_callV (tX1_tell hX (by omega) (by omega) (by omega) (by omega)) lc_X6_230 ⟨(Nat.le_of_ble_eq_true rfl), (Nat.le_of_ble_eq_true rfl)⟩ dX6_gate_88 rfl rfl (Nat.le_of_ble_eq_true rfl) ⟨(Nat.le_of_ble_eq_true rfl), (Nat.le_of_ble_eq_true rfl)⟩ ⟨_, _, _, _, hX.2.1 15 _ (by simp [cntX]; omega), rfl⟩ (kV fun M88 hp88 => ?_)
                    obtain ⟨s88, hX88, hO88, hs88⟩ := hp88
                    refine v_iload dX6_gate_91 rfl ?_
                    exact v_iret dX6_gate_93 rfl ⟨(Nat.le_of_ble_eq_true rfl), (Nat.le_of_ble_eq_true rfl)⟩ (by omega) ⟨s88, hX88, hO88, Or.inl ⟨by omega, rfl, by rw [hs88]; congr 1; split <;> omega⟩⟩
                  · refine v_iload dX6_gate_82 rfl ?_
                    refine v_goto 88 dX6_gate_84 (by decide) ?_
                    refine v_callV (tX1_tell hX (by omega) (by omega) (by omega) (by omega)) lc_X6_230 ⟨(Nat.le_of_ble_eq_true rfl), (Nat.le_of_ble_eq_true rfl)⟩ dX6_gate_88 rfl rfl (Nat.le_of_ble_eq_true rfl) ⟨(Nat.le_of_ble_eq_true rfl), (Nat.le_of_ble_eq_true rfl)⟩ ⟨_, _, _, _, hX.2.1 15 _ (by simp [cntX]; omega), rfl⟩ (kV fun M88 hp88 => ?_)
                    obtain ⟨s88, hX88, hO88, hs88⟩ := hp88
                    refine v_iload dX6_gate_91 rfl ?_
                    exact v_iret dX6_gate_93 rfl ⟨(Nat.le_of_ble_eq_true rfl), (Nat.le_of_ble_eq_true rfl)⟩ (by omega) ⟨s88, hX88, hO88, Or.inl ⟨by omega, rfl, by rw [hs88]; congr 1; split <;> omega⟩⟩
                · refine v_iconst dX6_gate_56 ?_
                  exact v_iret dX6_gate_57 rfl ⟨(Nat.le_of_ble_eq_true rfl), (Nat.le_of_ble_eq_true rfl)⟩ (by omega) ⟨s, hX, wO.rf, Or.inr ⟨by omega, by omega, rfl⟩⟩
          · refine v_iconst dX6_gate_35 ?_
            exact v_iret dX6_gate_36 rfl ⟨(Nat.le_of_ble_eq_true rfl), (Nat.le_of_ble_eq_true rfl)⟩ (by omega) ⟨s, hX, wO.rf, Or.inr ⟨by omega, by omega, rfl⟩⟩
      · refine v_iconst dX6_gate_24 ?_
        exact v_iret dX6_gate_25 rfl ⟨(Nat.le_of_ble_eq_true rfl), (Nat.le_of_ble_eq_true rfl)⟩ (by omega) ⟨s, hX, wO.rf, Or.inr ⟨by omega, by omega, rfl⟩⟩
end
section
def rix (a b : Int) : Nat := (a * 12 + b).toNat
def putS (s : sG) (i : Nat) (t v : Int) : sG := ups (ups (ups s 11 i (s 10 i 2).toNat t) 12 i (s 10 i 2).toNat v) 10 i 2 (s 10 i 2 + 1)
def lastS (s : sG) (i : Nat) : Int := tickF (s 10 i 2) (s 11 i) (s 10 i 2 - 1)
set_option maxHeartbeats 4000000 in
set_option maxRecDepth 100000 in
theorem tX6_change {G : gG} {fw : Nat → Nat → Nat} {s : sG} {M : wM} (hX : wX G fw s M) {a b t v : Int} (ha : rng a) (hb : rng b) (ht : rng t) (hv : rng v) : wT G qX6_change 0 0 [.ref (fw 0 0), .int (gI a), .int (gI b), .int (gI t), .int (gI v)] M (PX G fw M (fun x s' => (¬ (bt 0 a 1 ∧ bt 0 b 11 ∧ bt 0 t 3999 ∧ bt 0 v 256) ∧ x = -1 ∧ s' = s) ∨ ((bt 0 a 1 ∧ bt 0 b 11 ∧ bt 0 t 3999 ∧ bt 0 v 256) ∧ ((t ≤ lastS s (rix a b) ∧ x = -2 ∧ s' = s) ∨ (lastS s (rix a b) < t ∧ s 10 (rix a b) 2 = 50 ∧ x = -3 ∧ s' = s) ∨ (lastS s (rix a b) < t ∧ s 10 (rix a b) 2 < 50 ∧ x = s 10 (rix a b) 2 + 1 ∧ s' = putS s (rix a b) t v))))) := by
  refine wT.intro (by decide) (Nat.le_of_ble_eq_true rfl) (fun sz => ?_)
  obtain ⟨hJ, hH, hI⟩ := id hX
  have hO : wO cntX fw M M := wO.rf
  have h0 := hX.2.2.1
  have hnm := hX.2.2.2.1
  have hsh := hX.2.2.2.2.1
  have h8 := hX.2.2.2.2.2.1
  have eix : (a * 12 + b).toNat = rix a b := rfl
  refine v_iloadn dX6_change_0 rfl ?_
  refine v_iloadn dX6_change_1 rfl ?_
  refine v_callS (tX6_isNoRow (by omega) (by omega)) lc_X6_65 ⟨(Nat.le_of_ble_eq_true rfl), (Nat.le_of_ble_eq_true rfl)⟩ dX6_change_2 rfl rfl (Nat.le_of_ble_eq_true rfl) ⟨(Nat.le_of_ble_eq_true rfl), (Nat.le_of_ble_eq_true rfl)⟩ (kP fun r2 hr2 hp2 => ?_)
  refine v_if_ne 27 dX6_change_5 (by decide) (by omega) (fun h5 => ?_) (fun h5 => ?_)
  · refine v_iconst dX6_change_27 ?_
    exact v_iret dX6_change_28 rfl ⟨(Nat.le_of_ble_eq_true rfl), (Nat.le_of_ble_eq_true rfl)⟩ (by omega) ⟨s, hX, wO.rf, Or.inl ⟨by omega, by omega, rfl⟩⟩
  · refine v_iloadn dX6_change_8 rfl ?_
    refine v_iconst dX6_change_9 ?_
    refine v_sipush dX6_change_10 (by decide) ?_
    refine v_callS (tX6_outside (by omega) (by omega) (by omega)) lc_X6_69 ⟨(Nat.le_of_ble_eq_true rfl), (Nat.le_of_ble_eq_true rfl)⟩ dX6_change_13 rfl rfl (Nat.le_of_ble_eq_true rfl) ⟨(Nat.le_of_ble_eq_true rfl), (Nat.le_of_ble_eq_true rfl)⟩ (kP fun r13 hr13 hp13 => ?_)
    refine v_if_ne 27 dX6_change_16 (by decide) (by omega) (fun h16 => ?_) (fun h16 => ?_)
    · refine v_iconst dX6_change_27 ?_
      exact v_iret dX6_change_28 rfl ⟨(Nat.le_of_ble_eq_true rfl), (Nat.le_of_ble_eq_true rfl)⟩ (by omega) ⟨s, hX, wO.rf, Or.inl ⟨by omega, by omega, rfl⟩⟩
    · refine v_iload dX6_change_19 rfl ?_
      refine v_callS (tX6_isNoValue (by omega)) lc_X6_73 ⟨(Nat.le_of_ble_eq_true rfl), (Nat.le_of_ble_eq_true rfl)⟩ dX6_change_21 rfl rfl (Nat.le_of_ble_eq_true rfl) ⟨(Nat.le_of_ble_eq_true rfl), (Nat.le_of_ble_eq_true rfl)⟩ (kP fun r21 hr21 hp21 => ?_)
      refine v_if_eq 29 dX6_change_24 (by decide) (by omega) (fun h24 => ?_) (fun h24 => ?_)
      · refine v_aloadn dX6_change_29 rfl ?_
        refine v_iloadn dX6_change_30 rfl ?_
        refine v_iloadn dX6_change_31 rfl ?_
        refine v_callV (tX6_rowOf hX (by omega) (by omega)) lc_X6_77 ⟨(Nat.le_of_ble_eq_true rfl), (Nat.le_of_ble_eq_true rfl)⟩ dX6_change_32 rfl rfl (Nat.le_of_ble_eq_true rfl) ⟨(Nat.le_of_ble_eq_true rfl), (Nat.le_of_ble_eq_true rfl)⟩ ⟨_, _, _, _, (hH 0 0 (by decide)), rfl⟩ (kRp fun r32 hp32 => ?_)
        subst hp32
        have hrow := hX.row (i := (a * 12 + b).toNat) (by omega)
        have hrg := hrow.rg
        refine v_astore dX6_change_35 (Nat.le_of_ble_eq_true rfl) ?_
        refine v_aload dX6_change_37 rfl ?_
        refine v_callV (tX4_lastTick hrow) lc_X6_81 ⟨(Nat.le_of_ble_eq_true rfl), (Nat.le_of_ble_eq_true rfl)⟩ dX6_change_39 rfl rfl (Nat.le_of_ble_eq_true rfl) ⟨(Nat.le_of_ble_eq_true rfl), (Nat.le_of_ble_eq_true rfl)⟩ ⟨_, _, _, _, hrow.1, rfl⟩ (kP fun r39 hr39 hp39 => ?_)
        have el : lastS s (rix a b) = r39 := hp39.symm
        refine v_iloadn dX6_change_42 rfl ?_
        refine v_icmp_lt 49 dX6_change_43 (by decide) (by omega) (by omega) (fun h43 => ?_) (fun h43 => ?_)
        · refine v_aload dX6_change_49 rfl ?_
          refine v_iconst dX6_change_51 ?_
          refine v_callV (tX4_lacksRoom hrow (by omega)) lc_X6_85 ⟨(Nat.le_of_ble_eq_true rfl), (Nat.le_of_ble_eq_true rfl)⟩ dX6_change_52 rfl rfl (Nat.le_of_ble_eq_true rfl) ⟨(Nat.le_of_ble_eq_true rfl), (Nat.le_of_ble_eq_true rfl)⟩ ⟨_, _, _, _, hrow.1, rfl⟩ (kP fun r52 hr52 hp52 => ?_)
          refine v_if_eq 61 dX6_change_55 (by decide) (by omega) (fun h55 => ?_) (fun h55 => ?_)
          · refine v_aload dX6_change_61 rfl ?_
            refine v_iloadn dX6_change_63 rfl ?_
            refine v_iload dX6_change_64 rfl ?_
            refine v_callV (tX4_put hX (i := (a * 12 + b).toNat) (by omega) (by omega) (by omega)) lc_X6_88 ⟨(Nat.le_of_ble_eq_true rfl), (Nat.le_of_ble_eq_true rfl)⟩ dX6_change_66 rfl rfl (Nat.le_of_ble_eq_true rfl) ⟨(Nat.le_of_ble_eq_true rfl), (Nat.le_of_ble_eq_true rfl)⟩ ⟨_, _, _, _, hrow.1, rfl⟩ (kV fun M66 hp66 => ?_)
            obtain ⟨s66, hX66, hO66, hs66⟩ := hp66
            have hlt : s 10 (a * 12 + b).toNat 2 < 50 := by omega
            have hs66 : s66 = putS s (rix a b) t v := by rcases hs66 with h | h
                                                         · exact h.2
                                                         · exact absurd h.1 (by omega)
            have e66 : s66 10 (a * 12 + b).toNat 2 = s 10 (a * 12 + b).toNat 2 + 1 := by rw [hs66]; unfold putS; rw [eix, ups_at]; rfl
            refine v_aload dX6_change_69 rfl ?_
            refine v_callV (tX4_size (hX66.row (i := (a * 12 + b).toNat) (by omega))) lc_X6_92 ⟨(Nat.le_of_ble_eq_true rfl), (Nat.le_of_ble_eq_true rfl)⟩ dX6_change_71 rfl rfl (Nat.le_of_ble_eq_true rfl) ⟨(Nat.le_of_ble_eq_true rfl), (Nat.le_of_ble_eq_true rfl)⟩ ⟨_, _, _, _, (hX66.row (i := (a * 12 + b).toNat) (by omega)).1, rfl⟩ (kP fun r71 hr71 hp71 => ?_)
            exact v_iret dX6_change_74 rfl ⟨(Nat.le_of_ble_eq_true rfl), (Nat.le_of_ble_eq_true rfl)⟩ (by omega) ⟨s66, hX66, hO66, Or.inr ⟨by omega, Or.inr (Or.inr ⟨by omega, by rw [← eix]; omega, by rw [← eix]; omega, hs66⟩)⟩⟩
          · refine v_bipush dX6_change_58 (by decide) ?_
            exact v_iret dX6_change_60 rfl ⟨(Nat.le_of_ble_eq_true rfl), (Nat.le_of_ble_eq_true rfl)⟩ (by omega) ⟨s, hX, wO.rf, Or.inr ⟨by omega, Or.inr (Or.inl ⟨by omega, by rw [← eix]; omega, by omega, rfl⟩)⟩⟩
        · refine v_bipush dX6_change_46 (by decide) ?_
          exact v_iret dX6_change_48 rfl ⟨(Nat.le_of_ble_eq_true rfl), (Nat.le_of_ble_eq_true rfl)⟩ (by omega) ⟨s, hX, wO.rf, Or.inr ⟨by omega, Or.inl ⟨by omega, by omega, rfl⟩⟩⟩
      · refine v_iconst dX6_change_27 ?_
        exact v_iret dX6_change_28 rfl ⟨(Nat.le_of_ble_eq_true rfl), (Nat.le_of_ble_eq_true rfl)⟩ (by omega) ⟨s, hX, wO.rf, Or.inl ⟨by omega, by omega, rfl⟩⟩
set_option maxHeartbeats 4000000 in
set_option maxRecDepth 100000 in
theorem tX6_cut {G : gG} {fw : Nat → Nat → Nat} {s : sG} {M : wM} (hX : wX G fw s M) {a b t : Int} (ha : rng a) (hb : rng b) (ht : rng t) : wT G qX6_cut 0 0 [.ref (fw 0 0), .int (gI a), .int (gI b), .int (gI t)] M (PX G fw M (fun x s' => (¬ (bt 0 a 1 ∧ bt 0 b 11 ∧ bt 0 t 3999) ∧ x = -1 ∧ s' = s) ∨ ((bt 0 a 1 ∧ bt 0 b 11 ∧ bt 0 t 3999) ∧ ∃ z, lateP (s 10 (rix a b) 2) (s 11 (rix a b)) (t - 1) z ∧ s' = ups s 10 (rix a b) 2 (z + 1) ∧ x = s 10 (rix a b) 2 - (z + 1)))) := by
  refine wT.intro (by decide) (Nat.le_of_ble_eq_true rfl) (fun sz => ?_)
  obtain ⟨hJ, hH, hI⟩ := id hX
  have hO : wO cntX fw M M := wO.rf
  have h0 := hX.2.2.1
  have hnm := hX.2.2.2.1
  have hsh := hX.2.2.2.2.1
  have h8 := hX.2.2.2.2.2.1
  refine v_iloadn dX6_cut_0 rfl ?_
  refine v_iloadn dX6_cut_1 rfl ?_
  refine v_callS (tX6_isNoRow (by omega) (by omega)) lc_X6_65 ⟨(Nat.le_of_ble_eq_true rfl), (Nat.le_of_ble_eq_true rfl)⟩ dX6_cut_2 rfl rfl (Nat.le_of_ble_eq_true rfl) ⟨(Nat.le_of_ble_eq_true rfl), (Nat.le_of_ble_eq_true rfl)⟩ (kP fun r2 hr2 hp2 => ?_)
  refine v_if_ne 19 dX6_cut_5 (by decide) (by omega) (fun h5 => ?_) (fun h5 => ?_)
  · refine v_iconst dX6_cut_19 ?_
    exact v_iret dX6_cut_20 rfl ⟨(Nat.le_of_ble_eq_true rfl), (Nat.le_of_ble_eq_true rfl)⟩ (by omega) ⟨s, hX, wO.rf, Or.inl ⟨by omega, by omega, rfl⟩⟩
  · refine v_iloadn dX6_cut_8 rfl ?_
    refine v_iconst dX6_cut_9 ?_
    refine v_sipush dX6_cut_10 (by decide) ?_
    refine v_callS (tX6_outside (by omega) (by omega) (by omega)) lc_X6_69 ⟨(Nat.le_of_ble_eq_true rfl), (Nat.le_of_ble_eq_true rfl)⟩ dX6_cut_13 rfl rfl (Nat.le_of_ble_eq_true rfl) ⟨(Nat.le_of_ble_eq_true rfl), (Nat.le_of_ble_eq_true rfl)⟩ (kP fun r13 hr13 hp13 => ?_)
    refine v_if_eq 21 dX6_cut_16 (by decide) (by omega) (fun h16 => ?_) (fun h16 => ?_)
    · refine v_aloadn dX6_cut_21 rfl ?_
      refine v_iloadn dX6_cut_22 rfl ?_
      refine v_iloadn dX6_cut_23 rfl ?_
      refine v_callV (tX6_rowOf hX (by omega) (by omega)) lc_X6_77 ⟨(Nat.le_of_ble_eq_true rfl), (Nat.le_of_ble_eq_true rfl)⟩ dX6_cut_24 rfl rfl (Nat.le_of_ble_eq_true rfl) ⟨(Nat.le_of_ble_eq_true rfl), (Nat.le_of_ble_eq_true rfl)⟩ ⟨_, _, _, _, (hH 0 0 (by decide)), rfl⟩ (kRp fun r24 hp24 => ?_)
      subst hp24
      have hrow := hX.row (i := (a * 12 + b).toNat) (by omega)
      have hrg := hrow.rg
      refine v_iloadn dX6_cut_27 rfl ?_
      refine v_callV (tX4_dropFrom hX (i := (a * 12 + b).toNat) (by omega) (by omega)) lc_X6_106 ⟨(Nat.le_of_ble_eq_true rfl), (Nat.le_of_ble_eq_true rfl)⟩ dX6_cut_28 rfl rfl (Nat.le_of_ble_eq_true rfl) ⟨(Nat.le_of_ble_eq_true rfl), (Nat.le_of_ble_eq_true rfl)⟩ ⟨_, _, _, _, hrow.1, rfl⟩ (kI fun r28 M28 hr28 hp28 => ?_)
      obtain ⟨s28, z, hX28, hO28, hz, hs28, hx28⟩ := hp28
      exact v_iret dX6_cut_31 rfl ⟨(Nat.le_of_ble_eq_true rfl), (Nat.le_of_ble_eq_true rfl)⟩ (by omega) ⟨s28, hX28, hO28, Or.inr ⟨by omega, z, hz, hs28, hx28⟩⟩
    · refine v_iconst dX6_cut_19 ?_
      exact v_iret dX6_cut_20 rfl ⟨(Nat.le_of_ble_eq_true rfl), (Nat.le_of_ble_eq_true rfl)⟩ (by omega) ⟨s, hX, wO.rf, Or.inl ⟨by omega, by omega, rfl⟩⟩
set_option maxHeartbeats 4000000 in
set_option maxRecDepth 100000 in
theorem tX6_value {G : gG} {fw : Nat → Nat → Nat} {s : sG} {M : wM} (hX : wX G fw s M) {a b t : Int} (ha : rng a) (hb : rng b) (ht : rng t) : wT G qX6_value 0 0 [.ref (fw 0 0), .int (gI a), .int (gI b), .int (gI t)] M (iP fun x M' => M' = M ∧ ((¬ (bt 0 a 1 ∧ bt 0 b 11 ∧ bt 0 t 3999) ∧ x = -1) ∨ ((bt 0 a 1 ∧ bt 0 b 11 ∧ bt 0 t 3999) ∧ ∃ i, lateP (s 10 (rix a b) 2) (s 11 (rix a b)) t i ∧ x = valF (s 10 (rix a b) 2) (s 12 (rix a b)) i))) := by
  refine wT.intro (by decide) (Nat.le_of_ble_eq_true rfl) (fun sz => ?_)
  obtain ⟨hJ, hH, hI⟩ := id hX
  have hO : wO cntX fw M M := wO.rf
  have h0 := hX.2.2.1
  have hnm := hX.2.2.2.1
  have hsh := hX.2.2.2.2.1
  have h8 := hX.2.2.2.2.2.1
  refine v_iloadn dX6_value_0 rfl ?_
  refine v_iloadn dX6_value_1 rfl ?_
  refine v_callS (tX6_isNoRow (by omega) (by omega)) lc_X6_65 ⟨(Nat.le_of_ble_eq_true rfl), (Nat.le_of_ble_eq_true rfl)⟩ dX6_value_2 rfl rfl (Nat.le_of_ble_eq_true rfl) ⟨(Nat.le_of_ble_eq_true rfl), (Nat.le_of_ble_eq_true rfl)⟩ (kP fun r2 hr2 hp2 => ?_)
  refine v_if_ne 19 dX6_value_5 (by decide) (by omega) (fun h5 => ?_) (fun h5 => ?_)
  · refine v_iconst dX6_value_19 ?_
    exact v_iret dX6_value_20 rfl ⟨(Nat.le_of_ble_eq_true rfl), (Nat.le_of_ble_eq_true rfl)⟩ (by omega) ⟨rfl, Or.inl ⟨by omega, by omega⟩⟩
  · refine v_iloadn dX6_value_8 rfl ?_
    refine v_iconst dX6_value_9 ?_
    refine v_sipush dX6_value_10 (by decide) ?_
    refine v_callS (tX6_outside (by omega) (by omega) (by omega)) lc_X6_69 ⟨(Nat.le_of_ble_eq_true rfl), (Nat.le_of_ble_eq_true rfl)⟩ dX6_value_13 rfl rfl (Nat.le_of_ble_eq_true rfl) ⟨(Nat.le_of_ble_eq_true rfl), (Nat.le_of_ble_eq_true rfl)⟩ (kP fun r13 hr13 hp13 => ?_)
    refine v_if_eq 21 dX6_value_16 (by decide) (by omega) (fun h16 => ?_) (fun h16 => ?_)
    · refine v_aloadn dX6_value_21 rfl ?_
      refine v_iloadn dX6_value_22 rfl ?_
      refine v_iloadn dX6_value_23 rfl ?_
      refine v_callV (tX6_rowOf hX (by omega) (by omega)) lc_X6_77 ⟨(Nat.le_of_ble_eq_true rfl), (Nat.le_of_ble_eq_true rfl)⟩ dX6_value_24 rfl rfl (Nat.le_of_ble_eq_true rfl) ⟨(Nat.le_of_ble_eq_true rfl), (Nat.le_of_ble_eq_true rfl)⟩ ⟨_, _, _, _, (hH 0 0 (by decide)), rfl⟩ (kRp fun r24 hp24 => ?_)
      subst hp24
      have hrow := hX.row (i := (a * 12 + b).toNat) (by omega)
      have hrg := hrow.rg
      refine v_iloadn dX6_value_27 rfl ?_
      refine v_callV (tX4_valueAt hrow (by omega)) lc_X6_110 ⟨(Nat.le_of_ble_eq_true rfl), (Nat.le_of_ble_eq_true rfl)⟩ dX6_value_28 rfl rfl (Nat.le_of_ble_eq_true rfl) ⟨(Nat.le_of_ble_eq_true rfl), (Nat.le_of_ble_eq_true rfl)⟩ ⟨_, _, _, _, hrow.1, rfl⟩ (kP fun r28 hr28 hp28 => ?_)
      exact v_iret dX6_value_31 rfl ⟨(Nat.le_of_ble_eq_true rfl), (Nat.le_of_ble_eq_true rfl)⟩ (by omega) ⟨rfl, Or.inr ⟨by omega, hp28⟩⟩
    · refine v_iconst dX6_value_19 ?_
      exact v_iret dX6_value_20 rfl ⟨(Nat.le_of_ble_eq_true rfl), (Nat.le_of_ble_eq_true rfl)⟩ (by omega) ⟨rfl, Or.inl ⟨by omega, by omega⟩⟩
end
section
def pkR (n i : Int) (v : Int64) : Int32 := ((v.toUInt64 >>> ((gI (16 * (n - 1 - i))).toInt64.toUInt64 &&& Int64.toUInt64 63)).toInt64).toInt32 &&& gI 65535
def pkF (n i : Int) (v : Int64) : Int := (pkR n i v).toInt
theorem gI_nI (j : Nat) : nI j = gI (j : Int) := rfl
theorem pkF_rg (n i : Int) (v : Int64) : bt 0 (pkF n i v) 65535 := by
  unfold pkF pkR
  obtain ⟨j, h1, h2⟩ := pk_andE (((v.toUInt64 >>> ((gI (16 * (n - 1 - i))).toInt64.toUInt64 &&& Int64.toUInt64 63)).toInt64).toInt32) (m := gI 65535) 16 (by decide)
  rw [h2, gI_nI, gI_toInt (by omega)]
  omega
theorem pk_ush9 {p : Int} (h : bt 0 p 65535) : ((gI p).toUInt32 >>> ((gI 9).toUInt32 &&& Int32.toUInt32 31)).toInt32 = gI (p / 512) := by
  have e : gI p = nI p.toNat := by rw [gI_nI]; congr 1; omega
  rw [e, pk_ushrN (by omega) (gI 9) 9 (by decide), gI_nI]
  congr 1
  omega
theorem pk_and511 {p : Int} (h : bt 0 p 65535) : gI p &&& gI 511 = gI (p % 512) := by
  have e : gI p = nI p.toNat := by rw [gI_nI]; congr 1; omega
  rw [e, pk_andN (by omega) (m := gI 511) 9 (by decide), gI_nI]
  congr 1
  omega
def accF (n : Int) (v : Int64) (t : Int) : Nat → Int
  | 0 => t
  | k + 1 => accF n v t k + pkF n (k : Int) v / 512
def okC (n : Int) (v : Int64) (t : Int) (k : Nat) : Prop := pkF n (k : Int) v / 512 ≠ 0 ∧ accF n v t (k + 1) < 4000 ∧ pkF n (k : Int) v % 512 ≤ 256
set_option maxHeartbeats 4000000 in
set_option maxRecDepth 100000 in
theorem tX6_packed {G : gG} {M : wM} {n i : Int} {v : Int64} (hn : bt 1 n 4) (hi : bt 0 i 3) : wT G qX6_packed 0 0 [.int (gI n), .long v, .int (gI i)] M (iP fun x M' => M' = M ∧ x = pkF n i v) := by
  refine wT.intro (by decide) (Nat.le_of_ble_eq_true rfl) (fun sz => ?_)
  refine v_lloadn dX6_packed_0 rfl ?_
  refine v_bipush dX6_packed_1 (by decide) ?_
  refine v_iloadn dX6_packed_3 rfl ?_
  refine v_iconst dX6_packed_4 ?_
  refine v_isub dX6_packed_5 ?_
  refine v_iloadn dX6_packed_6 rfl ?_
  refine v_isub dX6_packed_7 ?_
  refine v_imul dX6_packed_8 ?_
  refine v_lushr dX6_packed_9 ?_
  refine v_l2i dX6_packed_10 ?_
  refine v_ldc (n := 65535) dX6_packed_11 (by decide +kernel) ?_
  refine v_iand dX6_packed_13 ?_
  exact v_iretA dX6_packed_14 rfl ⟨(Nat.le_of_ble_eq_true rfl), (Nat.le_of_ble_eq_true rfl)⟩ ⟨rfl, rfl⟩
set_option maxHeartbeats 4000000 in
set_option maxRecDepth 100000 in
theorem tX6_packedTicks {G : gG} {M : wM} {n i : Int} {v : Int64} (hn : bt 1 n 4) (hi : bt 0 i 3) : wT G qX6_packedTicks 0 0 [.int (gI n), .long v, .int (gI i)] M (iP fun x M' => M' = M ∧ x = pkF n i v / 512) := by
  refine wT.intro (by decide) (Nat.le_of_ble_eq_true rfl) (fun sz => ?_)
  have hb := pkF_rg n i v
  refine v_iloadn dX6_packedTicks_0 rfl ?_
  refine v_lloadn dX6_packedTicks_1 rfl ?_
  refine v_iloadn dX6_packedTicks_2 rfl ?_
  refine v_callS (tX6_packed hn hi) lc_X6_113 ⟨(Nat.le_of_ble_eq_true rfl), (Nat.le_of_ble_eq_true rfl)⟩ dX6_packedTicks_3 rfl rfl (Nat.le_of_ble_eq_true rfl) ⟨(Nat.le_of_ble_eq_true rfl), (Nat.le_of_ble_eq_true rfl)⟩ (kP fun r3 hr3 hp3 => ?_)
  refine v_bipush dX6_packedTicks_6 (by decide) ?_
  refine v_iushr dX6_packedTicks_8 ?_
  rw [pk_ush9 (by omega)]
  exact v_iret dX6_packedTicks_9 rfl ⟨(Nat.le_of_ble_eq_true rfl), (Nat.le_of_ble_eq_true rfl)⟩ (by omega) ⟨rfl, by rw [hp3]⟩
set_option maxHeartbeats 4000000 in
set_option maxRecDepth 100000 in
theorem tX6_packedValue {G : gG} {M : wM} {n i : Int} {v : Int64} (hn : bt 1 n 4) (hi : bt 0 i 3) : wT G qX6_packedValue 0 0 [.int (gI n), .long v, .int (gI i)] M (iP fun x M' => M' = M ∧ x = pkF n i v % 512) := by
  refine wT.intro (by decide) (Nat.le_of_ble_eq_true rfl) (fun sz => ?_)
  have hb := pkF_rg n i v
  refine v_iloadn dX6_packedValue_0 rfl ?_
  refine v_lloadn dX6_packedValue_1 rfl ?_
  refine v_iloadn dX6_packedValue_2 rfl ?_
  refine v_callS (tX6_packed hn hi) lc_X6_113 ⟨(Nat.le_of_ble_eq_true rfl), (Nat.le_of_ble_eq_true rfl)⟩ dX6_packedValue_3 rfl rfl (Nat.le_of_ble_eq_true rfl) ⟨(Nat.le_of_ble_eq_true rfl), (Nat.le_of_ble_eq_true rfl)⟩ (kP fun r3 hr3 hp3 => ?_)
  refine v_sipush dX6_packedValue_6 (by decide) ?_
  refine v_iand dX6_packedValue_9 ?_
  rw [pk_and511 (by omega)]
  exact v_iret dX6_packedValue_10 rfl ⟨(Nat.le_of_ble_eq_true rfl), (Nat.le_of_ble_eq_true rfl)⟩ (by omega) ⟨rfl, by rw [hp3]⟩
set_option maxHeartbeats 4000000 in
set_option maxRecDepth 100000 in
theorem tX6_areChanges_loop {sz : Nat} {M0 : wM} {G : gG} {M : wM} {n t0 : Int} {v : Int64} (hn : bt 1 n 4) (ht : bt (-1) t0 1000000) : ∀ (k : Nat) (t i : Int), 0 ≤ 5 - i → 5 - i < (k : Int) → (bt 0 i n) → (t = accF n v t0 i.toNat) → (bt (-1) t 1000000) → (∀ k : Nat, (k : Int) < i → okC n v t0 k) → wV G qX6_areChanges 0 0 sz M0 0 0 6 [(0, .int (gI t0)), (1, .int (gI n)), (2, .long v), (4, .int (gI t)), (5, .int (gI i))] [] M (iP fun x M' => M' = M ∧ ((x = 1 ∧ ∀ k : Nat, (k : Int) < n → okC n v t0 k) ∨ (x = 0 ∧ ∃ k : Nat, (k : Int) < n ∧ ¬ okC n v t0 k))) := by
  intro k
  induction k with
  | zero =>
    intros
    omega
  | succ k ih =>
    intro t i hmz hml h1 h2 h3 h4
    have eI : (i.toNat : Int) = i := by omega
    have hbb := pkF_rg n i v
    have eA : accF n v t0 (i.toNat + 1) = accF n v t0 i.toNat + pkF n i v / 512 := by show accF n v t0 i.toNat + pkF n (i.toNat : Int) v / 512 = _; rw [eI]
    refine v_iload dX6_areChanges_6 rfl ?_
    refine v_iloadn dX6_areChanges_8 rfl ?_
    refine v_icmp_ge 62 dX6_areChanges_9 (by decide) (by omega) (by omega) (fun h9 => ?_) (fun h9 => ?_)
    · refine v_iconst dX6_areChanges_62 ?_
      exact v_zret dX6_areChanges_63 rfl ⟨(Nat.le_of_ble_eq_true rfl), (Nat.le_of_ble_eq_true rfl)⟩ (by omega) ⟨rfl, Or.inl ⟨by omega, fun k hk => h4 k (by omega)⟩⟩
    · refine v_iloadn dX6_areChanges_12 rfl ?_
      refine v_lloadn dX6_areChanges_13 rfl ?_
      refine v_iload dX6_areChanges_14 rfl ?_
      refine v_callS (tX6_packedTicks hn (by omega)) lc_X6_99 ⟨(Nat.le_of_ble_eq_true rfl), (Nat.le_of_ble_eq_true rfl)⟩ dX6_areChanges_16 rfl rfl (Nat.le_of_ble_eq_true rfl) ⟨(Nat.le_of_ble_eq_true rfl), (Nat.le_of_ble_eq_true rfl)⟩ (kP fun r16 hr16 hp16 => ?_)
      refine v_istore dX6_areChanges_19 (Nat.le_of_ble_eq_true rfl) ?_
      refine v_iload dX6_areChanges_21 rfl ?_
      refine v_iload dX6_areChanges_23 rfl ?_
      refine v_iadd dX6_areChanges_25 ?_
      refine v_istore dX6_areChanges_26 (Nat.le_of_ble_eq_true rfl) ?_
      refine v_iload dX6_areChanges_28 rfl ?_
      refine v_if_eq 54 dX6_areChanges_30 (by decide) (by omega) (fun h30 => ?_) (fun h30 => ?_)
      · refine v_iconst dX6_areChanges_54 ?_
        exact v_zret dX6_areChanges_55 rfl ⟨(Nat.le_of_ble_eq_true rfl), (Nat.le_of_ble_eq_true rfl)⟩ (by omega) ⟨rfl, Or.inr ⟨by omega, i.toNat, by omega, fun hok => by unfold okC at hok; rw [eA, eI] at hok; omega⟩⟩
      · refine v_iload dX6_areChanges_33 rfl ?_
        refine v_sipush dX6_areChanges_35 (by decide) ?_
        refine v_icmp_ge 54 dX6_areChanges_38 (by decide) (by omega) (by omega) (fun h38 => ?_) (fun h38 => ?_)
        · refine v_iconst dX6_areChanges_54 ?_
          exact v_zret dX6_areChanges_55 rfl ⟨(Nat.le_of_ble_eq_true rfl), (Nat.le_of_ble_eq_true rfl)⟩ (by omega) ⟨rfl, Or.inr ⟨by omega, i.toNat, by omega, fun hok => by unfold okC at hok; rw [eA, eI] at hok; omega⟩⟩
        · refine v_iloadn dX6_areChanges_41 rfl ?_
          refine v_lloadn dX6_areChanges_42 rfl ?_
          refine v_iload dX6_areChanges_43 rfl ?_
          refine v_callS (tX6_packedValue hn (by omega)) lc_X6_103 ⟨(Nat.le_of_ble_eq_true rfl), (Nat.le_of_ble_eq_true rfl)⟩ dX6_areChanges_45 rfl rfl (Nat.le_of_ble_eq_true rfl) ⟨(Nat.le_of_ble_eq_true rfl), (Nat.le_of_ble_eq_true rfl)⟩ (kP fun r45 hr45 hp45 => ?_)
          refine v_callS (tX6_isNoValue (by omega)) lc_X6_73 ⟨(Nat.le_of_ble_eq_true rfl), (Nat.le_of_ble_eq_true rfl)⟩ dX6_areChanges_48 rfl rfl (Nat.le_of_ble_eq_true rfl) ⟨(Nat.le_of_ble_eq_true rfl), (Nat.le_of_ble_eq_true rfl)⟩ (kP fun r48 hr48 hp48 => ?_)
          refine v_if_eq 56 dX6_areChanges_51 (by decide) (by omega) (fun h51 => ?_) (fun h51 => ?_)
          · have hokk : okC n v t0 i.toNat := by unfold okC; rw [eA, eI]; omega
            refine v_iinc dX6_areChanges_56 rfl (Nat.le_of_ble_eq_true rfl) ?_
            refine v_goto 6 dX6_areChanges_59 (by decide) ?_
            refine wV.locs (lv' := [(0, .int (gI t0)), (1, .int (gI n)), (2, .long v), (4, .int (gI _)), (5, .int (gI _))]) ⟨rfl, rfl, rfl, rfl, rfl, trivial⟩ (ih _ _ (by omega) (by omega) (by omega) (by rw [show (i + 1).toNat = i.toNat + 1 by omega, eA]; omega) (by omega) (fun k hk => ?_))
            rcases (show (k : Int) < i ∨ k = i.toNat by omega) with h | h
            · exact h4 k h
            · rw [h]; exact hokk
          · refine v_iconst dX6_areChanges_54 ?_
            exact v_zret dX6_areChanges_55 rfl ⟨(Nat.le_of_ble_eq_true rfl), (Nat.le_of_ble_eq_true rfl)⟩ (by omega) ⟨rfl, Or.inr ⟨by omega, i.toNat, by omega, fun hok => by unfold okC at hok; rw [eA, eI] at hok; omega⟩⟩
set_option maxHeartbeats 4000000 in
set_option maxRecDepth 100000 in
theorem tX6_areChanges {G : gG} {M : wM} {n t0 : Int} {v : Int64} (hn : bt 1 n 4) (ht : bt (-1) t0 1000000) : wT G qX6_areChanges 0 0 [.int (gI t0), .int (gI n), .long v] M (iP fun x M' => M' = M ∧ ((x = 1 ∧ ∀ k : Nat, (k : Int) < n → okC n v t0 k) ∨ (x = 0 ∧ ∃ k : Nat, (k : Int) < n ∧ ¬ okC n v t0 k))) := by
  refine wT.intro (by decide) (Nat.le_of_ble_eq_true rfl) (fun sz => ?_)
  refine v_iloadn dX6_areChanges_0 rfl ?_
  refine v_istore dX6_areChanges_1 (Nat.le_of_ble_eq_true rfl) ?_
  refine v_iconst dX6_areChanges_3 ?_
  refine v_istore dX6_areChanges_4 (Nat.le_of_ble_eq_true rfl) ?_
  refine wV.locs (lv' := [(0, .int (gI t0)), (1, .int (gI n)), (2, .long v), (4, .int (gI (t0))), (5, .int (gI (0)))]) ⟨rfl, rfl, rfl, rfl, rfl, trivial⟩ (tX6_areChanges_loop hn ht 10 _ _ (by omega) (by omega) (by omega) rfl (by omega) (fun k hk => by omega))
def chS (s : sG) (r : Nat) (n : Int) (v : Int64) : Nat → sG
  | 0 => s
  | k + 1 => putS (chS s r n v k) r (lastS (chS s r n v k) r + pkF n (k : Int) v / 512) (pkF n (k : Int) v % 512)
theorem lastS_put {s : sG} {r : Nat} {t v : Int} (h0 : 0 ≤ s 10 r 2) : lastS (putS s r t v) r = t := by
  unfold lastS putS tickF
  rw [ups_at, ups_kf _ (by decide), ups_kf _ (by decide)]
  show (if (s 10 r 2 + 1) - 1 < 0 then -1 else if (s 10 r 2 + 1) - 1 < s 10 r 2 + 1 then ups (ups (ups s 11 r (s 10 r 2).toNat t) 12 r (s 10 r 2).toNat v) 10 r 2 (s 10 r 2 + 1) 11 r ((s 10 r 2 + 1) - 1).toNat else 1000000) = t
  rw [if_neg (by omega), if_pos (by omega), ups_kf _ (by decide), ups_kf _ (by decide), ups_at, show s 10 r 2 + 1 - 1 = s 10 r 2 by omega]
  unfold upz
  rw [if_pos rfl]
set_option maxHeartbeats 4000000 in
set_option maxRecDepth 100000 in
theorem tX6_changes_loop {sz : Nat} {M0 : wM} {G : gG} {fw : Nat → Nat → Nat} {si : sG} {Mi : wM} {a b n : Int} {v : Int64} (hab : bt 0 a 1 ∧ bt 0 b 11 ∧ bt 1 n 4) (hok : ∀ k : Nat, (k : Int) < n → okC n v (lastS si (rix a b)) k) (hroom : si 10 (rix a b) 2 + n ≤ 50) : ∀ (k : Nat) (s : sG) (M : wM) (i : Int), 0 ≤ 5 - i → 5 - i < (k : Int) → (wX G fw s M) → (wO cntX fw Mi M) → (bt 0 i n) → (s = chS si (rix a b) n v i.toNat) → (lastS s (rix a b) = accF n v (lastS si (rix a b)) i.toNat) → (s 10 (rix a b) 2 = si 10 (rix a b) 2 + i) → wV G qX6_changes 0 0 sz M0 0 0 58 [(0, .ref (fw 0 0)), (1, .int (gI a)), (2, .int (gI b)), (3, .int (gI n)), (4, .long v), (6, .ref (fw 10 (rix a b))), (7, .int (gI i))] [] M (PX G fw Mi (fun x s' => (¬ (bt 0 a 1 ∧ bt 0 b 11 ∧ bt 1 n 4) ∧ x = -1 ∧ s' = si) ∨ ((bt 0 a 1 ∧ bt 0 b 11 ∧ bt 1 n 4) ∧ (((∃ k : Nat, (k : Int) < n ∧ ¬ okC n v (lastS si (rix a b)) k) ∧ x = -1 ∧ s' = si) ∨ ((∀ k : Nat, (k : Int) < n → okC n v (lastS si (rix a b)) k) ∧ 50 < si 10 (rix a b) 2 + n ∧ x = -3 ∧ s' = si) ∨ ((∀ k : Nat, (k : Int) < n → okC n v (lastS si (rix a b)) k) ∧ si 10 (rix a b) 2 + n ≤ 50 ∧ x = si 10 (rix a b) 2 + n ∧ s' = chS si (rix a b) n v n.toNat))))) := by
  intro k
  induction k with
  | zero =>
    intros
    omega
  | succ k ih =>
    intro s M i hmz hml hX hO h1 h2 h3 h4
    have hix : rix a b < 45 := by unfold rix; omega
    have hrow := hX.row hix
    have hrg := hrow.rg
    have eI : (i.toNat : Int) = i := by omega
    have hbb := pkF_rg n i v
    have eA : accF n v (lastS si (rix a b)) (i.toNat + 1) = accF n v (lastS si (rix a b)) i.toNat + pkF n i v / 512 := by show _ + pkF n (i.toNat : Int) v / 512 = _; rw [eI]
    refine v_iload dX6_changes_58 rfl ?_
    refine v_iloadn dX6_changes_60 rfl ?_
    refine v_icmp_ge 97 dX6_changes_61 (by decide) (by omega) (by omega) (fun h61 => ?_) (fun h61 => ?_)
    · refine v_aload dX6_changes_97 rfl ?_
      refine v_callV (tX4_size hrow) lc_X6_92 ⟨(Nat.le_of_ble_eq_true rfl), (Nat.le_of_ble_eq_true rfl)⟩ dX6_changes_99 rfl rfl (Nat.le_of_ble_eq_true rfl) ⟨(Nat.le_of_ble_eq_true rfl), (Nat.le_of_ble_eq_true rfl)⟩ ⟨_, _, _, _, hrow.1, rfl⟩ (kP fun r99 hr99 hp99 => ?_)
      exact v_iret dX6_changes_102 rfl ⟨(Nat.le_of_ble_eq_true rfl), (Nat.le_of_ble_eq_true rfl)⟩ (by omega) ⟨s, hX, hO, Or.inr ⟨hab, Or.inr (Or.inr ⟨hok, hroom, by omega, by rw [h2]; congr 1; omega⟩)⟩⟩
    · refine v_aload dX6_changes_64 rfl ?_
      refine v_aload dX6_changes_66 rfl ?_
      refine v_callV (tX4_lastTick hrow) lc_X6_81 ⟨(Nat.le_of_ble_eq_true rfl), (Nat.le_of_ble_eq_true rfl)⟩ dX6_changes_68 rfl rfl (Nat.le_of_ble_eq_true rfl) ⟨(Nat.le_of_ble_eq_true rfl), (Nat.le_of_ble_eq_true rfl)⟩ ⟨_, _, _, _, hrow.1, rfl⟩ (kP fun r68 hr68 hp68 => ?_)
      have ha68 := tickF_rg hrow.2.2.2 (s 10 (rix a b) 2 - 1)
      have e68 : r68 = accF n v (lastS si (rix a b)) i.toNat := by rw [hp68]; exact h3
      have hk := hok i.toNat (by omega)
      unfold okC at hk
      rw [eA, eI] at hk
      refine v_iloadn dX6_changes_71 rfl ?_
      refine v_lload dX6_changes_72 rfl ?_
      refine v_iload dX6_changes_74 rfl ?_
      refine v_callS (tX6_packedTicks (by omega) (by omega)) lc_X6_99 ⟨(Nat.le_of_ble_eq_true rfl), (Nat.le_of_ble_eq_true rfl)⟩ dX6_changes_76 rfl rfl (Nat.le_of_ble_eq_true rfl) ⟨(Nat.le_of_ble_eq_true rfl), (Nat.le_of_ble_eq_true rfl)⟩ (kP fun r76 hr76 hp76 => ?_)
      refine v_iadd dX6_changes_79 ?_
      refine v_iloadn dX6_changes_80 rfl ?_
      refine v_lload dX6_changes_81 rfl ?_
      refine v_iload dX6_changes_83 rfl ?_
      refine v_callS (tX6_packedValue (by omega) (by omega)) lc_X6_103 ⟨(Nat.le_of_ble_eq_true rfl), (Nat.le_of_ble_eq_true rfl)⟩ dX6_changes_85 rfl rfl (Nat.le_of_ble_eq_true rfl) ⟨(Nat.le_of_ble_eq_true rfl), (Nat.le_of_ble_eq_true rfl)⟩ (kP fun r85 hr85 hp85 => ?_)
      refine v_callV (tX4_put hX hix (by omega) (by omega)) lc_X6_88 ⟨(Nat.le_of_ble_eq_true rfl), (Nat.le_of_ble_eq_true rfl)⟩ dX6_changes_88 rfl rfl (Nat.le_of_ble_eq_true rfl) ⟨(Nat.le_of_ble_eq_true rfl), (Nat.le_of_ble_eq_true rfl)⟩ ⟨_, _, _, _, hrow.1, rfl⟩ (kV fun M88 hp88 => ?_)
      obtain ⟨s88, hX88, hO88, hs88⟩ := hp88
      have hs88 : s88 = putS s (rix a b) (r68 + r76) r85 := hs88.elim (fun h => h.2) (fun h => absurd h.1 (by omega))
      have el : lastS s88 (rix a b) = accF n v (lastS si (rix a b)) i.toNat + pkF n i v / 512 := by rw [hs88, lastS_put (by omega)]; omega
      have es : s88 = chS si (rix a b) n v (i.toNat + 1) := by
        show s88 = putS (chS si (rix a b) n v i.toNat) (rix a b) (lastS (chS si (rix a b) n v i.toNat) (rix a b) + pkF n (i.toNat : Int) v / 512) (pkF n (i.toNat : Int) v % 512)
        rw [hs88, ← h2, eI, h3, e68, hp76, hp85]
      have e88 : s88 10 (rix a b) 2 = s 10 (rix a b) 2 + 1 := by rw [hs88]; unfold putS; rw [ups_at]; rfl
      have hO := hO.tr hO88
      have hX := hX88
      refine v_iinc dX6_changes_91 rfl (Nat.le_of_ble_eq_true rfl) ?_
      refine v_goto 58 dX6_changes_94 (by decide) ?_
      refine wV.locs (lv' := [(0, .ref (fw 0 0)), (1, .int (gI a)), (2, .int (gI b)), (3, .int (gI n)), (4, .long v), (6, .ref (fw 10 (rix a b))), (7, .int (gI _))]) ⟨rfl, rfl, rfl, rfl, rfl, rfl, rfl, trivial⟩ (ih _ _ _ (by omega) (by omega) hX hO (by omega) (by rw [show (i + 1).toNat = i.toNat + 1 by omega]; exact es) (by rw [show (i + 1).toNat = i.toNat + 1 by omega, eA]; exact el) (by omega))
set_option maxHeartbeats 4000000 in
set_option maxRecDepth 100000 in
theorem tX6_changes {G : gG} {fw : Nat → Nat → Nat} {si : sG} {Mi : wM} (hX : wX G fw si Mi) {a b n : Int} {v : Int64} (ha : rng a) (hb : rng b) (hn : rng n) : wT G qX6_changes 0 0 [.ref (fw 0 0), .int (gI a), .int (gI b), .int (gI n), .long v] Mi (PX G fw Mi (fun x s' => (¬ (bt 0 a 1 ∧ bt 0 b 11 ∧ bt 1 n 4) ∧ x = -1 ∧ s' = si) ∨ ((bt 0 a 1 ∧ bt 0 b 11 ∧ bt 1 n 4) ∧ (((∃ k : Nat, (k : Int) < n ∧ ¬ okC n v (lastS si (rix a b)) k) ∧ x = -1 ∧ s' = si) ∨ ((∀ k : Nat, (k : Int) < n → okC n v (lastS si (rix a b)) k) ∧ 50 < si 10 (rix a b) 2 + n ∧ x = -3 ∧ s' = si) ∨ ((∀ k : Nat, (k : Int) < n → okC n v (lastS si (rix a b)) k) ∧ si 10 (rix a b) 2 + n ≤ 50 ∧ x = si 10 (rix a b) 2 + n ∧ s' = chS si (rix a b) n v n.toNat))))) := by
  refine wT.intro (by decide) (Nat.le_of_ble_eq_true rfl) (fun sz => ?_)
  refine v_iloadn dX6_changes_0 rfl ?_
  refine v_iloadn dX6_changes_1 rfl ?_
  refine v_callS (tX6_isNoRow (by omega) (by omega)) lc_X6_65 ⟨(Nat.le_of_ble_eq_true rfl), (Nat.le_of_ble_eq_true rfl)⟩ dX6_changes_2 rfl rfl (Nat.le_of_ble_eq_true rfl) ⟨(Nat.le_of_ble_eq_true rfl), (Nat.le_of_ble_eq_true rfl)⟩ (kP fun r2 hr2 hp2 => ?_)
  refine v_if_ne 17 dX6_changes_5 (by decide) (by omega) (fun h5 => ?_) (fun h5 => ?_)
  · refine v_iconst dX6_changes_17 ?_
    exact v_iret dX6_changes_18 rfl ⟨(Nat.le_of_ble_eq_true rfl), (Nat.le_of_ble_eq_true rfl)⟩ (by omega) ⟨si, hX, wO.rf, Or.inl ⟨by omega, by omega, rfl⟩⟩
  · refine v_iloadn dX6_changes_8 rfl ?_
    refine v_iconst dX6_changes_9 ?_
    refine v_iconst dX6_changes_10 ?_
    refine v_callS (tX6_outside (by omega) (by omega) (by omega)) lc_X6_69 ⟨(Nat.le_of_ble_eq_true rfl), (Nat.le_of_ble_eq_true rfl)⟩ dX6_changes_11 rfl rfl (Nat.le_of_ble_eq_true rfl) ⟨(Nat.le_of_ble_eq_true rfl), (Nat.le_of_ble_eq_true rfl)⟩ (kP fun r11 hr11 hp11 => ?_)
    refine v_if_eq 19 dX6_changes_14 (by decide) (by omega) (fun h14 => ?_) (fun h14 => ?_)
    · refine v_aloadn dX6_changes_19 rfl ?_
      refine v_iloadn dX6_changes_20 rfl ?_
      refine v_iloadn dX6_changes_21 rfl ?_
      refine v_callV (tX6_rowOf hX (by omega) (by omega)) lc_X6_77 ⟨(Nat.le_of_ble_eq_true rfl), (Nat.le_of_ble_eq_true rfl)⟩ dX6_changes_22 rfl rfl (Nat.le_of_ble_eq_true rfl) ⟨(Nat.le_of_ble_eq_true rfl), (Nat.le_of_ble_eq_true rfl)⟩ ⟨_, _, _, _, (hX.2.1 0 0 (by decide)), rfl⟩ (kRp fun r22 hp22 => ?_)
      have hix : rix a b < 45 := by unfold rix; omega
      have hp22 : r22 = fw 10 (rix a b) := hp22
      subst hp22
      have hrow := hX.row hix
      have hrg := hrow.rg
      refine v_astore dX6_changes_25 (Nat.le_of_ble_eq_true rfl) ?_
      refine v_aload dX6_changes_27 rfl ?_
      refine v_callV (tX4_lastTick hrow) lc_X6_81 ⟨(Nat.le_of_ble_eq_true rfl), (Nat.le_of_ble_eq_true rfl)⟩ dX6_changes_29 rfl rfl (Nat.le_of_ble_eq_true rfl) ⟨(Nat.le_of_ble_eq_true rfl), (Nat.le_of_ble_eq_true rfl)⟩ ⟨_, _, _, _, hrow.1, rfl⟩ (kP fun r29 hr29 hp29 => ?_)
      have ha29 := tickF_rg hrow.2.2.2 (si 10 (rix a b) 2 - 1)
      have el : lastS si (rix a b) = r29 := hp29.symm
      refine v_iloadn dX6_changes_32 rfl ?_
      refine v_lload dX6_changes_33 rfl ?_
      refine v_callS (tX6_areChanges (by omega) (by omega)) lc_X6_95 ⟨(Nat.le_of_ble_eq_true rfl), (Nat.le_of_ble_eq_true rfl)⟩ dX6_changes_35 rfl rfl (Nat.le_of_ble_eq_true rfl) ⟨(Nat.le_of_ble_eq_true rfl), (Nat.le_of_ble_eq_true rfl)⟩ (kP fun r35 hr35 hp35 => ?_)
      refine v_if_ne 43 dX6_changes_38 (by decide) (by omega) (fun h38 => ?_) (fun h38 => ?_)
      · refine v_aload dX6_changes_43 rfl ?_
        refine v_iloadn dX6_changes_45 rfl ?_
        refine v_callV (tX4_lacksRoom hrow (by omega)) lc_X6_85 ⟨(Nat.le_of_ble_eq_true rfl), (Nat.le_of_ble_eq_true rfl)⟩ dX6_changes_46 rfl rfl (Nat.le_of_ble_eq_true rfl) ⟨(Nat.le_of_ble_eq_true rfl), (Nat.le_of_ble_eq_true rfl)⟩ ⟨_, _, _, _, hrow.1, rfl⟩ (kP fun r46 hr46 hp46 => ?_)
        refine v_if_eq 55 dX6_changes_49 (by decide) (by omega) (fun h49 => ?_) (fun h49 => ?_)
        · refine v_iconst dX6_changes_55 ?_
          refine v_istore dX6_changes_56 (Nat.le_of_ble_eq_true rfl) ?_
          refine wV.locs (lv' := [(0, .ref (fw 0 0)), (1, .int (gI a)), (2, .int (gI b)), (3, .int (gI n)), (4, .long v), (6, .ref (fw 10 (rix a b))), (7, .int (gI (0)))]) ⟨rfl, rfl, rfl, rfl, rfl, rfl, rfl, trivial⟩ (tX6_changes_loop (by omega) (by rw [el]; exact hp35.elim (fun h => h.2) (fun h => absurd h.1 (by omega))) (by omega) 10 si Mi _ (by omega) (by omega) hX wO.rf (by omega) rfl rfl (by omega))
        · refine v_bipush dX6_changes_52 (by decide) ?_
          exact v_iret dX6_changes_54 rfl ⟨(Nat.le_of_ble_eq_true rfl), (Nat.le_of_ble_eq_true rfl)⟩ (by omega) ⟨si, hX, wO.rf, Or.inr ⟨by omega, Or.inr (Or.inl ⟨by rw [el]; exact hp35.elim (fun h => h.2) (fun h => absurd h.1 (by omega)), by omega, by omega, rfl⟩)⟩⟩
      · refine v_iconst dX6_changes_41 ?_
        exact v_iret dX6_changes_42 rfl ⟨(Nat.le_of_ble_eq_true rfl), (Nat.le_of_ble_eq_true rfl)⟩ (⟨by decide, by decide⟩) ⟨si, hX, wO.rf, Or.inr ⟨by clear hp35; omega, Or.inl ⟨by rw [el]; exact hp35.elim (fun h => absurd h.1 (by omega)) (fun h => h.2), by clear hp35; omega, rfl⟩⟩⟩
    · refine v_iconst dX6_changes_17 ?_
      exact v_iret dX6_changes_18 rfl ⟨(Nat.le_of_ble_eq_true rfl), (Nat.le_of_ble_eq_true rfl)⟩ (by omega) ⟨si, hX, wO.rf, Or.inl ⟨by omega, by omega, rfl⟩⟩
end
section
section WTS
variable {G : gG} {q : mD} {mc ms sz kc ks pc : Nat} {M0 M : wM} {lv : List (Nat × Value)} {st : List Value} {Post : Option Value → wM → Prop}
theorem v_tout {dflt lo hi : Int} {offs : Array Int} {len : Nat} {x : Int} (tgt : Nat) (hd : decode q.2.1 pc = .ok (.tableswitch dflt lo hi offs, len)) (hx : rng x) (h : x < lo ∨ hi < x) (ht : (pc : Int) + dflt = (tgt : Int)) (k : wV G q mc ms sz M0 kc ks tgt lv st M Post) : wV G q mc ms sz M0 kc ks pc lv (.int (gI x) :: st) M Post := by
  intro p e s m args below meth c H locs ls C hsz hW hm hS hl
  refine lv_tableOut C.1 C.2.1 hd (by rw [gI_toInt hx]; exact h) ht ?_
  exact k p e s m args below meth c H locs ls C hsz hW hm hS hl
theorem v_tin {dflt lo hi : Int} {offs : Array Int} {len : Nat} {x off : Int} (tgt : Nat) (hd : decode q.2.1 pc = .ok (.tableswitch dflt lo hi offs, len)) (hx : rng x) (h1 : lo ≤ x) (h2 : x ≤ hi) (ho : offs[(x - lo).toNat]? = some off) (ht : (pc : Int) + off = (tgt : Int)) (k : wV G q mc ms sz M0 kc ks tgt lv st M Post) : wV G q mc ms sz M0 kc ks pc lv (.int (gI x) :: st) M Post := by
  intro p e s m args below meth c H locs ls C hsz hW hm hS hl
  refine lv_tableIn C.1 C.2.1 hd (by rw [gI_toInt hx]; omega) (by rw [gI_toInt hx]; omega) (by rw [gI_toInt hx]; exact ho) ht ?_
  exact k p e s m args below meth c H locs ls C hsz hW hm hS hl
end WTS
set_option maxHeartbeats 4000000 in
set_option maxRecDepth 100000 in
theorem tX6_seek_loop {sz : Nat} {M0 : wM} {G : gG} {fw : Nat → Nat → Nat} {si : sG} {Mi : wM} {a b : Int} (ha : bt 0 a 11) : ∀ (k : Nat) (s : sG) (M : wM) (i : Int), 0 ≤ 11 - i → 11 - i < (k : Int) → (wX G fw s M) → (wO cntX fw Mi M) → (keepX si s) → (bt 0 i 10) → wV G qX6_seekDifferences 0 0 sz M0 0 0 36 [(0, .ref (fw 0 0)), (1, .int (gI a)), (2, .int (gI b)), (3, .int (gI i))] [] M (vP fun M' => ∃ s', wX G fw s' M' ∧ wO cntX fw Mi M' ∧ keepX si s') := by
  intro k
  induction k with
  | zero =>
    intros
    omega
  | succ k ih =>
    intro s M i hmz hml hX hO hK h1
    have h0 := hX.2.2.1
    have hnm := hX.2.2.2.1
    have hsh := hX.2.2.2.2.1
    have h8 := hX.2.2.2.2.2.1
    refine v_iloadn dX6_seekDifferences_36 rfl ?_
    refine v_aloadn dX6_seekDifferences_37 rfl ?_
    refine v_get dX6_seekDifferences_38 gf_X6_50 (hX.2.1 0 0 (by decide)) rfl ?_
    refine v_icmp_ge 87 dX6_seekDifferences_41 (by decide) (by omega) (by omega) (fun h41 => ?_) (fun h41 => ?_)
    · exact v_vret dX6_seekDifferences_87 rfl ⟨(Nat.le_of_ble_eq_true rfl), (Nat.le_of_ble_eq_true rfl)⟩ ⟨s, hX, hO, hK⟩
    · refine v_aloadn dX6_seekDifferences_44 rfl ?_
      refine v_get dX6_seekDifferences_45 gf_X6_27 (hX.2.1 0 0 (by decide)) rfl ?_
      refine v_iloadn dX6_seekDifferences_48 rfl ?_
      refine v_aald (cA := G.2.2 0) (Cn := "WavePairs$Mask") dX6_seekDifferences_49 (hX.2.1 5 0 (by decide)) (by simp) (by omega) (by omega) (by decide) ?_
      have hmk := hX.2.2.2.2.2.2.2.1 i.toNat (by omega)
      refine v_astore dX6_seekDifferences_50 (Nat.le_of_ble_eq_true rfl) ?_
      refine v_aload dX6_seekDifferences_52 rfl ?_
      refine v_getN dX6_seekDifferences_54 gf_X6_163 (hX.2.1 13 _ (by simp [cntX]; omega)) rfl ?_
      refine v_iloadn dX6_seekDifferences_57 rfl ?_
      refine v_icmp_ne 81 dX6_seekDifferences_58 (by decide) (by omega) (by omega) (fun h58 => ?_) (fun h58 => ?_)
      · refine v_iinc dX6_seekDifferences_81 rfl (Nat.le_of_ble_eq_true rfl) ?_
        refine v_goto 36 dX6_seekDifferences_84 (by decide) ?_
        refine wV.locs (lv' := [(0, .ref (fw 0 0)), (1, .int (gI a)), (2, .int (gI b)), (3, .int (gI _))]) ⟨rfl, rfl, rfl, rfl, trivial⟩ (ih _ _ _ (by omega) (by omega) hX hO hK (by omega))
      · refine v_aloadn dX6_seekDifferences_61 rfl ?_
        refine v_get dX6_seekDifferences_62 gf_X6_46 (hX.2.1 0 0 (by decide)) rfl ?_
        refine v_callV (tX5_take hX) lc_X6_150 ⟨(Nat.le_of_ble_eq_true rfl), (Nat.le_of_ble_eq_true rfl)⟩ dX6_seekDifferences_65 rfl rfl (Nat.le_of_ble_eq_true rfl) ⟨(Nat.le_of_ble_eq_true rfl), (Nat.le_of_ble_eq_true rfl)⟩ ⟨_, _, _, _, hX.2.1 8 0 (by decide), rfl⟩ (kR fun r65 M65 hp65 => ?_)
        obtain ⟨s65, j65, hj65, rfl, hX, hO65, -, hs65⟩ := hp65
        have hO := hO.tr hO65
        have hK : keepX si s65 := hK.tr (fun k i' hq => by unfold scrX at hq; rw [hs65]; simp only [ups]; rw [if_neg (by omega)])
        have h0 := hX.2.2.1
        have hnm := hX.2.2.2.1
        have hsh := hX.2.2.2.2.1
        have h8 := hX.2.2.2.2.2.1
        have hmk := hX.2.2.2.2.2.2.2.1 i.toNat (by omega)
        refine v_aload dX6_seekDifferences_68 rfl ?_
        refine v_getN dX6_seekDifferences_70 gf_X6_166 (hX.2.1 13 _ (by simp [cntX]; omega)) rfl ?_
        refine v_aload dX6_seekDifferences_73 rfl ?_
        refine v_getN dX6_seekDifferences_75 gf_X6_170 (hX.2.1 13 _ (by simp [cntX]; omega)) rfl ?_
        refine v_callV (tX3_wantValueNot hX (by omega) (by omega) (by omega)) lc_X6_173 ⟨(Nat.le_of_ble_eq_true rfl), (Nat.le_of_ble_eq_true rfl)⟩ dX6_seekDifferences_78 rfl rfl (Nat.le_of_ble_eq_true rfl) ⟨(Nat.le_of_ble_eq_true rfl), (Nat.le_of_ble_eq_true rfl)⟩ ⟨_, _, _, _, hX.2.1 16 _ (by simp [cntX]; omega), rfl⟩ (kV fun M78 hp78 => ?_)
        obtain ⟨s78, hX, hO78, hK78, -⟩ := hp78
        have hO := hO.tr hO78
        have hK := hK.tr hK78
        have h0 := hX.2.2.1
        have hnm := hX.2.2.2.1
        have hsh := hX.2.2.2.2.1
        have h8 := hX.2.2.2.2.2.1
        refine v_iinc dX6_seekDifferences_81 rfl (Nat.le_of_ble_eq_true rfl) ?_
        refine v_goto 36 dX6_seekDifferences_84 (by decide) ?_
        refine wV.locs (lv' := [(0, .ref (fw 0 0)), (1, .int (gI a)), (2, .int (gI b)), (3, .int (gI _))]) ⟨rfl, rfl, rfl, rfl, trivial⟩ (ih _ _ _ (by omega) (by omega) hX hO hK (by omega))
set_option maxHeartbeats 4000000 in
set_option maxRecDepth 100000 in
theorem tX6_seekDifferences {G : gG} {fw : Nat → Nat → Nat} {si : sG} {Mi : wM} (hX : wX G fw si Mi) {a b : Int} (ha : bt 0 a 11) (hb : bt (-50) b 50) : wT G qX6_seekDifferences 0 0 [.ref (fw 0 0), .int (gI a), .int (gI b)] Mi (vP fun M' => ∃ s', wX G fw s' M' ∧ wO cntX fw Mi M' ∧ keepX si s') := by
  refine wT.intro (by decide) (Nat.le_of_ble_eq_true rfl) (fun sz => ?_)
  have hO : wO cntX fw Mi Mi := wO.rf
  have hK : keepX si si := keepX.rf
  refine v_aloadn dX6_seekDifferences_0 rfl ?_
  refine v_get dX6_seekDifferences_1 gf_X6_46 (hX.2.1 0 0 (by decide)) rfl ?_
  refine v_callV (tX5_clear hX) lc_X6_147 ⟨(Nat.le_of_ble_eq_true rfl), (Nat.le_of_ble_eq_true rfl)⟩ dX6_seekDifferences_4 rfl rfl (Nat.le_of_ble_eq_true rfl) ⟨(Nat.le_of_ble_eq_true rfl), (Nat.le_of_ble_eq_true rfl)⟩ ⟨_, _, _, _, hX.2.1 8 0 (by decide), rfl⟩ (kV fun M4 hp4 => ?_)
  obtain ⟨s4, hX, hO4, hs4⟩ := hp4
  have hO := hO.tr hO4
  have hK : keepX si s4 := hK.tr (fun k i' hq => by unfold scrX at hq; rw [hs4]; simp only [ups]; rw [if_neg (by omega)])
  have h0 := hX.2.2.1
  have hnm := hX.2.2.2.1
  have hsh := hX.2.2.2.2.1
  have h8 := hX.2.2.2.2.2.1
  refine v_aloadn dX6_seekDifferences_7 rfl ?_
  refine v_get dX6_seekDifferences_8 gf_X6_46 (hX.2.1 0 0 (by decide)) rfl ?_
  refine v_callV (tX5_take hX) lc_X6_150 ⟨(Nat.le_of_ble_eq_true rfl), (Nat.le_of_ble_eq_true rfl)⟩ dX6_seekDifferences_11 rfl rfl (Nat.le_of_ble_eq_true rfl) ⟨(Nat.le_of_ble_eq_true rfl), (Nat.le_of_ble_eq_true rfl)⟩ ⟨_, _, _, _, hX.2.1 8 0 (by decide), rfl⟩ (kR fun r11 M11 hp11 => ?_)
  obtain ⟨s11, j11, hj11, rfl, hX, hO11, -, hs11⟩ := hp11
  have hO := hO.tr hO11
  have hK : keepX si s11 := hK.tr (fun k i' hq => by unfold scrX at hq; rw [hs11]; simp only [ups]; rw [if_neg (by omega)])
  have h0 := hX.2.2.1
  have hnm := hX.2.2.2.1
  have hsh := hX.2.2.2.2.1
  have h8 := hX.2.2.2.2.2.1
  refine v_aloadn dX6_seekDifferences_14 rfl ?_
  refine v_iconst dX6_seekDifferences_15 ?_
  refine v_iloadn dX6_seekDifferences_16 rfl ?_
  refine v_callV (tX6_rowOf hX (by omega) (by omega)) lc_X6_77 ⟨(Nat.le_of_ble_eq_true rfl), (Nat.le_of_ble_eq_true rfl)⟩ dX6_seekDifferences_17 rfl rfl (Nat.le_of_ble_eq_true rfl) ⟨(Nat.le_of_ble_eq_true rfl), (Nat.le_of_ble_eq_true rfl)⟩ ⟨_, _, _, _, (hX.2.1 0 0 (by decide)), rfl⟩ (kRp fun r17 hp17 => ?_)
  subst hp17
  refine v_aloadn dX6_seekDifferences_20 rfl ?_
  refine v_iconst dX6_seekDifferences_21 ?_
  refine v_iloadn dX6_seekDifferences_22 rfl ?_
  refine v_callV (tX6_namedRow hX (by omega) (by omega)) lc_X6_154 ⟨(Nat.le_of_ble_eq_true rfl), (Nat.le_of_ble_eq_true rfl)⟩ dX6_seekDifferences_23 rfl rfl (Nat.le_of_ble_eq_true rfl) ⟨(Nat.le_of_ble_eq_true rfl), (Nat.le_of_ble_eq_true rfl)⟩ ⟨_, _, _, _, (hX.2.1 0 0 (by decide)), rfl⟩ (kRp fun r23 hp23 => ?_)
  subst hp23
  refine v_iloadn dX6_seekDifferences_26 rfl ?_
  refine v_aloadn dX6_seekDifferences_27 rfl ?_
  refine v_get dX6_seekDifferences_28 gf_X6_57 (hX.2.1 0 0 (by decide)) rfl ?_
  refine v_callV (tX3_wantUnlike hX (by omega) (by omega) (nmd_lt hX.2.2 (by omega) (by omega)) (by omega) (by omega)) lc_X6_157 ⟨(Nat.le_of_ble_eq_true rfl), (Nat.le_of_ble_eq_true rfl)⟩ dX6_seekDifferences_31 rfl rfl (Nat.le_of_ble_eq_true rfl) ⟨(Nat.le_of_ble_eq_true rfl), (Nat.le_of_ble_eq_true rfl)⟩ ⟨_, _, _, _, hX.2.1 16 _ (by simp [cntX]; omega), rfl⟩ (kV fun M31 hp31 => ?_)
  obtain ⟨s31, hX, hO31, hs31⟩ := hp31
  have hO := hO.tr hO31
  have hK : keepX si s31 := hK.tr (fun k i' hq => by unfold scrX at hq; rw [hs31]; simp only [ups]; rw [if_neg (by omega), if_neg (by omega), if_neg (by omega), if_neg (by omega), if_neg (by omega)])
  have h0 := hX.2.2.1
  have hnm := hX.2.2.2.1
  have hsh := hX.2.2.2.2.1
  have h8 := hX.2.2.2.2.2.1
  refine v_iconst dX6_seekDifferences_34 ?_
  refine v_istoren dX6_seekDifferences_35 (Nat.le_of_ble_eq_true rfl) ?_
  refine wV.locs (lv' := [(0, .ref (fw 0 0)), (1, .int (gI a)), (2, .int (gI b)), (3, .int (gI (0)))]) ⟨rfl, rfl, rfl, rfl, trivial⟩ (tX6_seek_loop ha 20 _ _ _ (by omega) (by omega) hX hO hK (by omega))
end
section
set_option maxHeartbeats 4000000 in
set_option maxRecDepth 100000 in
theorem tX6_differences_loop {sz : Nat} {M0 : wM} {G : gG} {fw : Nat → Nat → Nat} {si : sG} {Mi : wM} : ∀ (k : Nat) (s : sG) (M : wM) (u i : Int), 0 ≤ 13 - i → 13 - i < (k : Int) → (wX G fw s M) → (wO cntX fw Mi M) → (keepX si s) → (bt 0 i 12) → wV G qX6_differences 0 0 sz M0 0 0 4 [(0, .ref (fw 0 0)), (1, .int (gI u)), (2, .int (gI i))] [] M (PX G fw Mi (fun x s' => keepX si s')) := by
  intro k
  induction k with
  | zero =>
    intros
    omega
  | succ k ih =>
    intro s M u i hmz hml hX hO hK h1
    have h0 := hX.2.2.1
    have hnm := hX.2.2.2.1
    have hsh := hX.2.2.2.2.1
    have h8 := hX.2.2.2.2.2.1
    refine v_iloadn dX6_differences_4 rfl ?_
    refine v_bipush dX6_differences_5 (by decide) ?_
    refine v_icmp_ge 47 dX6_differences_7 (by decide) (by omega) (by omega) (fun h7 => ?_) (fun h7 => ?_)
    · refine v_iloadn dX6_differences_47 rfl ?_
      exact v_iretA dX6_differences_48 rfl ⟨(Nat.le_of_ble_eq_true rfl), (Nat.le_of_ble_eq_true rfl)⟩ ⟨s, hX, hO, hK⟩
    · refine v_aloadn dX6_differences_10 rfl ?_
      refine v_iloadn dX6_differences_11 rfl ?_
      refine v_aloadn dX6_differences_12 rfl ?_
      refine v_get dX6_differences_13 gf_X6_22 (hX.2.1 0 0 (by decide)) rfl ?_
      refine v_aloadn dX6_differences_16 rfl ?_
      refine v_get dX6_differences_17 gf_X6_19 (hX.2.1 0 0 (by decide)) rfl ?_
      refine v_iloadn dX6_differences_20 rfl ?_
      refine v_iald dX6_differences_21 (hX.2.1 3 0 (by decide)) (by omega) (by omega) (by decide) ?_
      have hgi := hnm (i).toNat (by omega)
      refine v_iald dX6_differences_22 (hX.2.1 4 0 (by decide)) (by omega) (by omega) (by decide) ?_
      have hshi := hsh (s 3 0 (i).toNat).toNat (by omega)
      refine v_callV (tX6_seekDifferences hX (by omega) (by omega)) lc_X6_128 ⟨(Nat.le_of_ble_eq_true rfl), (Nat.le_of_ble_eq_true rfl)⟩ dX6_differences_23 rfl rfl (Nat.le_of_ble_eq_true rfl) ⟨(Nat.le_of_ble_eq_true rfl), (Nat.le_of_ble_eq_true rfl)⟩ ⟨_, _, _, _, (hX.2.1 0 0 (by decide)), rfl⟩ (kV fun M23 hp23 => ?_)
      obtain ⟨s23, hX, hO23, hK23⟩ := hp23
      have hO := hO.tr hO23
      have hK := hK.tr hK23
      have h0 := hX.2.2.1
      have hnm := hX.2.2.2.1
      have hsh := hX.2.2.2.2.1
      have h8 := hX.2.2.2.2.2.1
      refine v_iloadn dX6_differences_26 rfl ?_
      refine v_aloadn dX6_differences_27 rfl ?_
      refine v_get dX6_differences_28 gf_X6_46 (hX.2.1 0 0 (by decide)) rfl ?_
      refine v_iconst dX6_differences_31 ?_
      refine v_aloadn dX6_differences_32 rfl ?_
      refine v_get dX6_differences_33 gf_X6_54 (hX.2.1 0 0 (by decide)) rfl ?_
      refine v_callV (tX5_howMany hX (by omega) (by omega)) lc_X6_131 ⟨(Nat.le_of_ble_eq_true rfl), (Nat.le_of_ble_eq_true rfl)⟩ dX6_differences_36 rfl rfl (Nat.le_of_ble_eq_true rfl) ⟨(Nat.le_of_ble_eq_true rfl), (Nat.le_of_ble_eq_true rfl)⟩ ⟨_, _, _, _, hX.2.1 8 0 (by decide), rfl⟩ (kI fun r36 M36 hr36 hp36 => ?_)
      obtain ⟨hb36, hp36⟩ := hp36
      obtain ⟨s36, hX, hO36, hK36⟩ := hp36
      have hO := hO.tr hO36
      have hK := hK.tr hK36
      have h0 := hX.2.2.1
      have hnm := hX.2.2.2.1
      have hsh := hX.2.2.2.2.1
      have h8 := hX.2.2.2.2.2.1
      refine v_iadd dX6_differences_39 ?_
      refine v_istoren dX6_differences_40 (Nat.le_of_ble_eq_true rfl) ?_
      refine v_iinc dX6_differences_41 rfl (Nat.le_of_ble_eq_true rfl) ?_
      refine v_goto 4 dX6_differences_44 (by decide) ?_
      refine wV.locs (lv' := [(0, .ref (fw 0 0)), (1, .int (gI _)), (2, .int (gI _))]) ⟨rfl, rfl, rfl, trivial⟩ (ih _ _ _ _ (by omega) (by omega) hX hO hK (by omega))
set_option maxHeartbeats 4000000 in
set_option maxRecDepth 100000 in
theorem tX6_differences {G : gG} {fw : Nat → Nat → Nat} {si : sG} {Mi : wM} (hX : wX G fw si Mi) : wT G qX6_differences 0 0 [.ref (fw 0 0)] Mi (PX G fw Mi (fun x s' => keepX si s')) := by
  refine wT.intro (by decide) (Nat.le_of_ble_eq_true rfl) (fun sz => ?_)
  have hO : wO cntX fw Mi Mi := wO.rf
  have hK : keepX si si := keepX.rf
  refine v_iconst dX6_differences_0 ?_
  refine v_istoren dX6_differences_1 (Nat.le_of_ble_eq_true rfl) ?_
  refine v_iconst dX6_differences_2 ?_
  refine v_istoren dX6_differences_3 (Nat.le_of_ble_eq_true rfl) ?_
  refine wV.locs (lv' := [(0, .ref (fw 0 0)), (1, .int (gI (0))), (2, .int (gI (0)))]) ⟨rfl, rfl, rfl, trivial⟩ (tX6_differences_loop 20 _ _ _ _ (by omega) (by omega) hX hO hK (by omega))
set_option maxHeartbeats 4000000 in
set_option maxRecDepth 100000 in
theorem tX6_difference_loop {sz : Nat} {M0 : wM} {G : gG} {fw : Nat → Nat → Nat} {si : sG} {Mi : wM} {a w : Int} (ha : rng a) (ha0 : 0 ≤ a) (hw : bt 0 w 2) : ∀ (k : Nat) (s : sG) (M : wM) (l i : Int), 0 ≤ 13 - i → 13 - i < (k : Int) → (wX G fw s M) → (wO cntX fw Mi M) → (keepX si s) → (bt 0 i 12) → (l ≤ a ∧ a - 4001 * i ≤ l) → wV G qX6_difference 0 0 sz M0 0 0 20 [(0, .ref (fw 0 0)), (1, .int (gI a)), (2, .int (gI w)), (3, .int (gI l)), (4, .int (gI i))] [] M (PX G fw Mi (fun x s' => keepX si s')) := by
  intro k
  induction k with
  | zero =>
    intros
    omega
  | succ k ih =>
    intro s M l i hmz hml hX hO hK h1 h2
    have h0 := hX.2.2.1
    have hnm := hX.2.2.2.1
    have hsh := hX.2.2.2.2.1
    have h8 := hX.2.2.2.2.2.1
    refine v_iload dX6_difference_20 rfl ?_
    refine v_bipush dX6_difference_22 (by decide) ?_
    refine v_icmp_ge 97 dX6_difference_24 (by decide) (by omega) (by omega) (fun h24 => ?_) (fun h24 => ?_)
    · refine v_bipush dX6_difference_97 (by decide) ?_
      exact v_iret dX6_difference_99 rfl ⟨(Nat.le_of_ble_eq_true rfl), (Nat.le_of_ble_eq_true rfl)⟩ (by omega) ⟨s, hX, hO, hK⟩
    · refine v_aloadn dX6_difference_27 rfl ?_
      refine v_iload dX6_difference_28 rfl ?_
      refine v_aloadn dX6_difference_30 rfl ?_
      refine v_get dX6_difference_31 gf_X6_22 (hX.2.1 0 0 (by decide)) rfl ?_
      refine v_aloadn dX6_difference_34 rfl ?_
      refine v_get dX6_difference_35 gf_X6_19 (hX.2.1 0 0 (by decide)) rfl ?_
      refine v_iload dX6_difference_38 rfl ?_
      refine v_iald dX6_difference_40 (hX.2.1 3 0 (by decide)) (by omega) (by omega) (by decide) ?_
      have hgi := hnm (i).toNat (by omega)
      refine v_iald dX6_difference_41 (hX.2.1 4 0 (by decide)) (by omega) (by omega) (by decide) ?_
      have hshi := hsh (s 3 0 (i).toNat).toNat (by omega)
      refine v_callV (tX6_seekDifferences hX (by omega) (by omega)) lc_X6_128 ⟨(Nat.le_of_ble_eq_true rfl), (Nat.le_of_ble_eq_true rfl)⟩ dX6_difference_42 rfl rfl (Nat.le_of_ble_eq_true rfl) ⟨(Nat.le_of_ble_eq_true rfl), (Nat.le_of_ble_eq_true rfl)⟩ ⟨_, _, _, _, (hX.2.1 0 0 (by decide)), rfl⟩ (kV fun M42 hp42 => ?_)
      obtain ⟨s42, hX, hO42, hK42⟩ := hp42
      have hO := hO.tr hO42
      have hK := hK.tr hK42
      have h0 := hX.2.2.1
      have hnm := hX.2.2.2.1
      have hsh := hX.2.2.2.2.1
      have h8 := hX.2.2.2.2.2.1
      refine v_aloadn dX6_difference_45 rfl ?_
      refine v_get dX6_difference_46 gf_X6_46 (hX.2.1 0 0 (by decide)) rfl ?_
      refine v_iloadn dX6_difference_49 rfl ?_
      refine v_iconst dX6_difference_50 ?_
      refine v_aloadn dX6_difference_51 rfl ?_
      refine v_get dX6_difference_52 gf_X6_54 (hX.2.1 0 0 (by decide)) rfl ?_
      refine v_callV (tX5_find hX (by omega) (by omega) (by omega)) lc_X6_135 ⟨(Nat.le_of_ble_eq_true rfl), (Nat.le_of_ble_eq_true rfl)⟩ dX6_difference_55 rfl rfl (Nat.le_of_ble_eq_true rfl) ⟨(Nat.le_of_ble_eq_true rfl), (Nat.le_of_ble_eq_true rfl)⟩ ⟨_, _, _, _, hX.2.1 8 0 (by decide), rfl⟩ (kI fun r55 M55 hr55 hp55 => ?_)
      obtain ⟨s55, hX, hO55, hE55, e1, e2, e3, e4, e5⟩ := hp55
      have hO := hO.tr hO55
      have hK : keepX si s55 := hK.tr (fun k i' hq => by rw [hE55 k (fun z => hq (Or.inl z))])
      have h0 := hX.2.2.1
      have hnm := hX.2.2.2.1
      have hsh := hX.2.2.2.2.1
      have h8 := hX.2.2.2.2.2.1
      refine v_if_eq 81 dX6_difference_58 (by decide) (by omega) (fun h58 => ?_) (fun h58 => ?_)
      · refine v_iloadn dX6_difference_81 rfl ?_
        refine v_aloadn dX6_difference_82 rfl ?_
        refine v_get dX6_difference_83 gf_X6_46 (hX.2.1 0 0 (by decide)) rfl ?_
        refine v_callV (tX5_seen hX) lc_X6_141 ⟨(Nat.le_of_ble_eq_true rfl), (Nat.le_of_ble_eq_true rfl)⟩ dX6_difference_86 rfl rfl (Nat.le_of_ble_eq_true rfl) ⟨(Nat.le_of_ble_eq_true rfl), (Nat.le_of_ble_eq_true rfl)⟩ ⟨_, _, _, _, hX.2.1 8 0 (by decide), rfl⟩ (kP fun r86 hr86 hp86 => ?_)
        refine v_isub dX6_difference_89 ?_
        refine v_istoren dX6_difference_90 (Nat.le_of_ble_eq_true rfl) ?_
        refine v_iinc dX6_difference_91 rfl (Nat.le_of_ble_eq_true rfl) ?_
        refine v_goto 20 dX6_difference_94 (by decide) ?_
        refine wV.locs (lv' := [(0, .ref (fw 0 0)), (1, .int (gI a)), (2, .int (gI w)), (3, .int (gI _)), (4, .int (gI _))]) ⟨rfl, rfl, rfl, rfl, rfl, trivial⟩ (ih _ _ _ _ (by omega) (by omega) hX hO hK (by omega) (by omega))
      · refine v_iloadn dX6_difference_61 rfl ?_
        refine v_if_ne 70 dX6_difference_62 (by decide) (by omega) (fun h62 => ?_) (fun h62 => ?_)
        · refine v_aloadn dX6_difference_70 rfl ?_
          refine v_get dX6_difference_71 gf_X6_46 (hX.2.1 0 0 (by decide)) rfl ?_
          refine v_iloadn dX6_difference_74 rfl ?_
          refine v_iconst dX6_difference_75 ?_
          refine v_isub dX6_difference_76 ?_
          refine v_callV (tX5_edgeFound hX (by omega)) lc_X6_138 ⟨(Nat.le_of_ble_eq_true rfl), (Nat.le_of_ble_eq_true rfl)⟩ dX6_difference_77 rfl rfl (Nat.le_of_ble_eq_true rfl) ⟨(Nat.le_of_ble_eq_true rfl), (Nat.le_of_ble_eq_true rfl)⟩ ⟨_, _, _, _, hX.2.1 8 0 (by decide), rfl⟩ (kP fun r77 hr77 hp77 => ?_)
          exact v_iret dX6_difference_80 rfl ⟨(Nat.le_of_ble_eq_true rfl), (Nat.le_of_ble_eq_true rfl)⟩ (by omega) ⟨_, hX, hO, hK⟩
        · refine v_iload dX6_difference_65 rfl ?_
          refine v_goto 80 dX6_difference_67 (by decide) ?_
          exact v_iret dX6_difference_80 rfl ⟨(Nat.le_of_ble_eq_true rfl), (Nat.le_of_ble_eq_true rfl)⟩ (by omega) ⟨_, hX, hO, hK⟩
set_option maxHeartbeats 4000000 in
set_option maxRecDepth 100000 in
theorem tX6_difference {G : gG} {fw : Nat → Nat → Nat} {si : sG} {Mi : wM} (hX : wX G fw si Mi) {a w : Int} (ha : rng a) (hw : rng w) : wT G qX6_difference 0 0 [.ref (fw 0 0), .int (gI a), .int (gI w)] Mi (PX G fw Mi (fun x s' => keepX si s')) := by
  refine wT.intro (by decide) (Nat.le_of_ble_eq_true rfl) (fun sz => ?_)
  have hO : wO cntX fw Mi Mi := wO.rf
  have hK : keepX si si := keepX.rf
  refine v_iloadn dX6_difference_0 rfl ?_
  refine v_if_lt 13 dX6_difference_1 (by decide) (by omega) (fun h1 => ?_) (fun h1 => ?_)
  · refine v_iconst dX6_difference_13 ?_
    exact v_iret dX6_difference_14 rfl ⟨(Nat.le_of_ble_eq_true rfl), (Nat.le_of_ble_eq_true rfl)⟩ (by omega) ⟨si, hX, hO, hK⟩
  · refine v_iloadn dX6_difference_4 rfl ?_
    refine v_iconst dX6_difference_5 ?_
    refine v_iconst dX6_difference_6 ?_
    refine v_callS (tX6_outside (by omega) (by omega) (by omega)) lc_X6_69 ⟨(Nat.le_of_ble_eq_true rfl), (Nat.le_of_ble_eq_true rfl)⟩ dX6_difference_7 rfl rfl (Nat.le_of_ble_eq_true rfl) ⟨(Nat.le_of_ble_eq_true rfl), (Nat.le_of_ble_eq_true rfl)⟩ (kP fun r7 hr7 hp7 => ?_)
    refine v_if_eq 15 dX6_difference_10 (by decide) (by omega) (fun h10 => ?_) (fun h10 => ?_)
    · refine v_iloadn dX6_difference_15 rfl ?_
      refine v_istoren dX6_difference_16 (Nat.le_of_ble_eq_true rfl) ?_
      refine v_iconst dX6_difference_17 ?_
      refine v_istore dX6_difference_18 (Nat.le_of_ble_eq_true rfl) ?_
      refine wV.locs (lv' := [(0, .ref (fw 0 0)), (1, .int (gI a)), (2, .int (gI w)), (3, .int (gI (a))), (4, .int (gI (0)))]) ⟨rfl, rfl, rfl, rfl, rfl, trivial⟩ (tX6_difference_loop ha (by omega) (by omega) 20 _ _ _ _ (by omega) (by omega) hX hO hK (by omega) (by omega))
    · refine v_iconst dX6_difference_13 ?_
      exact v_iret dX6_difference_14 rfl ⟨(Nat.le_of_ble_eq_true rfl), (Nat.le_of_ble_eq_true rfl)⟩ (by omega) ⟨si, hX, hO, hK⟩
set_option maxHeartbeats 4000000 in
set_option maxRecDepth 100000 in
theorem tX6_first_loop {sz : Nat} {M0 : wM} {G : gG} {fw : Nat → Nat → Nat} {si : sG} {Mi : wM} : ∀ (k : Nat) (s : sG) (M : wM) (u i : Int), 0 ≤ 13 - i → 13 - i < (k : Int) → (wX G fw s M) → (wO cntX fw Mi M) → (keepX si s) → (bt 0 i 12) → (bt (-60) u 4000) → wV G qX6_first 0 0 sz M0 0 0 7 [(0, .ref (fw 0 0)), (1, .int (gI u)), (2, .int (gI i))] [] M (PX G fw Mi (fun x s' => keepX si s')) := by
  intro k
  induction k with
  | zero =>
    intros
    omega
  | succ k ih =>
    intro s M u i hmz hml hX hO hK h1 h2
    have h0 := hX.2.2.1
    have hnm := hX.2.2.2.1
    have hsh := hX.2.2.2.2.1
    have h8 := hX.2.2.2.2.2.1
    refine v_iloadn dX6_first_7 rfl ?_
    refine v_bipush dX6_first_8 (by decide) ?_
    refine v_icmp_ge 45 dX6_first_10 (by decide) (by omega) (by omega) (fun h10 => ?_) (fun h10 => ?_)
    · refine v_iloadn dX6_first_45 rfl ?_
      refine v_aloadn dX6_first_46 rfl ?_
      refine v_get dX6_first_47 gf_X6_54 (hX.2.1 0 0 (by decide)) rfl ?_
      refine v_icmp_ge 57 dX6_first_50 (by decide) (by omega) (by omega) (fun h50 => ?_) (fun h50 => ?_)
      · refine v_bipush dX6_first_57 (by decide) ?_
        exact v_iret dX6_first_59 rfl ⟨(Nat.le_of_ble_eq_true rfl), (Nat.le_of_ble_eq_true rfl)⟩ (by omega) ⟨s, hX, hO, hK⟩
      · refine v_iloadn dX6_first_53 rfl ?_
        refine v_goto 59 dX6_first_54 (by decide) ?_
        exact v_iret dX6_first_59 rfl ⟨(Nat.le_of_ble_eq_true rfl), (Nat.le_of_ble_eq_true rfl)⟩ (by omega) ⟨s, hX, hO, hK⟩
    · refine v_aloadn dX6_first_13 rfl ?_
      refine v_iloadn dX6_first_14 rfl ?_
      refine v_aloadn dX6_first_15 rfl ?_
      refine v_get dX6_first_16 gf_X6_22 (hX.2.1 0 0 (by decide)) rfl ?_
      refine v_aloadn dX6_first_19 rfl ?_
      refine v_get dX6_first_20 gf_X6_19 (hX.2.1 0 0 (by decide)) rfl ?_
      refine v_iloadn dX6_first_23 rfl ?_
      refine v_iald dX6_first_24 (hX.2.1 3 0 (by decide)) (by omega) (by omega) (by decide) ?_
      have hgi := hnm (i).toNat (by omega)
      refine v_iald dX6_first_25 (hX.2.1 4 0 (by decide)) (by omega) (by omega) (by decide) ?_
      have hshi := hsh (s 3 0 (i).toNat).toNat (by omega)
      refine v_callV (tX6_seekDifferences hX (by omega) (by omega)) lc_X6_128 ⟨(Nat.le_of_ble_eq_true rfl), (Nat.le_of_ble_eq_true rfl)⟩ dX6_first_26 rfl rfl (Nat.le_of_ble_eq_true rfl) ⟨(Nat.le_of_ble_eq_true rfl), (Nat.le_of_ble_eq_true rfl)⟩ ⟨_, _, _, _, (hX.2.1 0 0 (by decide)), rfl⟩ (kV fun M26 hp26 => ?_)
      obtain ⟨s26, hX, hO26, hK26⟩ := hp26
      have hO := hO.tr hO26
      have hK := hK.tr hK26
      have h0 := hX.2.2.1
      have hnm := hX.2.2.2.1
      have hsh := hX.2.2.2.2.1
      have h8 := hX.2.2.2.2.2.1
      refine v_aloadn dX6_first_29 rfl ?_
      refine v_get dX6_first_30 gf_X6_46 (hX.2.1 0 0 (by decide)) rfl ?_
      refine v_iconst dX6_first_33 ?_
      refine v_iloadn dX6_first_34 rfl ?_
      refine v_callV (tX5_start hX (by omega) (by omega)) lc_X6_144 ⟨(Nat.le_of_ble_eq_true rfl), (Nat.le_of_ble_eq_true rfl)⟩ dX6_first_35 rfl rfl (Nat.le_of_ble_eq_true rfl) ⟨(Nat.le_of_ble_eq_true rfl), (Nat.le_of_ble_eq_true rfl)⟩ ⟨_, _, _, _, hX.2.1 8 0 (by decide), rfl⟩ (kP fun r35 hr35 hp35 => ?_)
      refine v_istoren dX6_first_38 (Nat.le_of_ble_eq_true rfl) ?_
      refine v_iinc dX6_first_39 rfl (Nat.le_of_ble_eq_true rfl) ?_
      refine v_goto 7 dX6_first_42 (by decide) ?_
      refine wV.locs (lv' := [(0, .ref (fw 0 0)), (1, .int (gI _)), (2, .int (gI _))]) ⟨rfl, rfl, rfl, trivial⟩ (ih _ _ _ _ (by omega) (by omega) hX hO hK (by omega) (by omega))
set_option maxHeartbeats 4000000 in
set_option maxRecDepth 100000 in
theorem tX6_first {G : gG} {fw : Nat → Nat → Nat} {si : sG} {Mi : wM} (hX : wX G fw si Mi) : wT G qX6_first 0 0 [.ref (fw 0 0)] Mi (PX G fw Mi (fun x s' => keepX si s')) := by
  refine wT.intro (by decide) (Nat.le_of_ble_eq_true rfl) (fun sz => ?_)
  have hO : wO cntX fw Mi Mi := wO.rf
  have hK : keepX si si := keepX.rf
  have h0 := hX.2.2.1
  have hnm := hX.2.2.2.1
  have hsh := hX.2.2.2.2.1
  have h8 := hX.2.2.2.2.2.1
  refine v_aloadn dX6_first_0 rfl ?_
  refine v_get dX6_first_1 gf_X6_54 (hX.2.1 0 0 (by decide)) rfl ?_
  refine v_istoren dX6_first_4 (Nat.le_of_ble_eq_true rfl) ?_
  refine v_iconst dX6_first_5 ?_
  refine v_istoren dX6_first_6 (Nat.le_of_ble_eq_true rfl) ?_
  refine wV.locs (lv' := [(0, .ref (fw 0 0)), (1, .int (gI (si 0 0 9))), (2, .int (gI (0)))]) ⟨rfl, rfl, rfl, trivial⟩ (tX6_first_loop 20 _ _ _ _ (by omega) (by omega) hX hO hK (by omega) (by omega))
set_option maxHeartbeats 4000000 in
set_option maxRecDepth 100000 in
theorem tX6_hasSignals_loop {sz : Nat} {M0 : wM} {G : gG} {fw : Nat → Nat → Nat} {s : sG} {M : wM} (hX : wX G fw s M) {a : Int} (ha : rng a) : ∀ (k : Nat) (i : Int), 0 ≤ 13 - i → 13 - i < (k : Int) → (bt 0 i 12) → wV G qX6_hasSignals 0 0 sz M0 0 0 2 [(0, .ref (fw 0 0)), (1, .int (gI a)), (2, .int (gI i))] [] M (iP fun x M' => M' = M ∧ (x = 0 ∨ x = 1)) := by
  intro k
  induction k with
  | zero =>
    intros
    omega
  | succ k ih =>
    intro i hmz hml h1
    have h0 := hX.2.2.1
    have hnm := hX.2.2.2.1
    have hsh := hX.2.2.2.2.1
    have h8 := hX.2.2.2.2.2.1
    refine v_iloadn dX6_hasSignals_2 rfl ?_
    refine v_bipush dX6_hasSignals_3 (by decide) ?_
    refine v_icmp_ge 26 dX6_hasSignals_5 (by decide) (by omega) (by omega) (fun h5 => ?_) (fun h5 => ?_)
    · refine v_iconst dX6_hasSignals_26 ?_
      exact v_zret dX6_hasSignals_27 rfl ⟨(Nat.le_of_ble_eq_true rfl), (Nat.le_of_ble_eq_true rfl)⟩ (by omega) ⟨rfl, by omega⟩
    · refine v_aloadn dX6_hasSignals_8 rfl ?_
      refine v_get dX6_hasSignals_9 gf_X6_19 (hX.2.1 0 0 (by decide)) rfl ?_
      refine v_iloadn dX6_hasSignals_12 rfl ?_
      refine v_iald dX6_hasSignals_13 (hX.2.1 3 0 (by decide)) (by omega) (by omega) (by decide) ?_
      have hgi := hnm (i).toNat (by omega)
      refine v_iloadn dX6_hasSignals_14 rfl ?_
      refine v_icmp_ne 20 dX6_hasSignals_15 (by decide) (by omega) (by omega) (fun h15 => ?_) (fun h15 => ?_)
      · refine v_iinc dX6_hasSignals_20 rfl (Nat.le_of_ble_eq_true rfl) ?_
        refine v_goto 2 dX6_hasSignals_23 (by decide) ?_
        refine wV.locs (lv' := [(0, .ref (fw 0 0)), (1, .int (gI a)), (2, .int (gI _))]) ⟨rfl, rfl, rfl, trivial⟩ (ih _ (by omega) (by omega) (by omega))
      · refine v_iconst dX6_hasSignals_18 ?_
        exact v_zret dX6_hasSignals_19 rfl ⟨(Nat.le_of_ble_eq_true rfl), (Nat.le_of_ble_eq_true rfl)⟩ (by omega) ⟨rfl, by omega⟩
set_option maxHeartbeats 4000000 in
set_option maxRecDepth 100000 in
theorem tX6_hasSignals {G : gG} {fw : Nat → Nat → Nat} {s : sG} {M : wM} (hX : wX G fw s M) {a : Int} (ha : rng a) : wT G qX6_hasSignals 0 0 [.ref (fw 0 0), .int (gI a)] M (iP fun x M' => M' = M ∧ (x = 0 ∨ x = 1)) := by
  refine wT.intro (by decide) (Nat.le_of_ble_eq_true rfl) (fun sz => ?_)
  refine v_iconst dX6_hasSignals_0 ?_
  refine v_istoren dX6_hasSignals_1 (Nat.le_of_ble_eq_true rfl) ?_
  refine wV.locs (lv' := [(0, .ref (fw 0 0)), (1, .int (gI a)), (2, .int (gI (0)))]) ⟨rfl, rfl, rfl, trivial⟩ (tX6_hasSignals_loop hX ha 20 _ (by omega) (by omega) (by omega))
set_option maxHeartbeats 4000000 in
set_option maxRecDepth 100000 in
theorem tX6_fitsBy_loop {sz : Nat} {M0 : wM} {G : gG} {fw : Nat → Nat → Nat} {si : sG} {Mi : wM} {a b f u : Int} (ha : rng a) (hb : bt (-50) b 50) (hf : bt 0 f 50) (hu : bt (-60) u 4000) : ∀ (k : Nat) (s : sG) (M : wM) (i : Int), 0 ≤ 13 - i → 13 - i < (k : Int) → (wX G fw s M) → (wO cntX fw Mi M) → (keepX si s) → (bt 0 i 12) → wV G qX6_fitsBy 0 0 sz M0 0 0 33 [(0, .ref (fw 0 0)), (1, .int (gI a)), (2, .int (gI b)), (3, .int (gI f)), (4, .int (gI u)), (5, .int (gI i))] [] M (PX G fw Mi (fun x s' => keepX si s' ∧ (x = 0 ∨ x = 1))) := by
  intro k
  induction k with
  | zero =>
    intros
    omega
  | succ k ih =>
    intro s M i hmz hml hX hO hK h1
    have h0 := hX.2.2.1
    have hnm := hX.2.2.2.1
    have hsh := hX.2.2.2.2.1
    have h8 := hX.2.2.2.2.2.1
    refine v_iload dX6_fitsBy_33 rfl ?_
    refine v_bipush dX6_fitsBy_35 (by decide) ?_
    refine v_icmp_ge 81 dX6_fitsBy_37 (by decide) (by omega) (by omega) (fun h37 => ?_) (fun h37 => ?_)
    · refine v_iconst dX6_fitsBy_81 ?_
      exact v_zret dX6_fitsBy_82 rfl ⟨(Nat.le_of_ble_eq_true rfl), (Nat.le_of_ble_eq_true rfl)⟩ (by omega) ⟨_, hX, hO, hK, by omega⟩
    · refine v_aloadn dX6_fitsBy_40 rfl ?_
      refine v_get dX6_fitsBy_41 gf_X6_19 (hX.2.1 0 0 (by decide)) rfl ?_
      refine v_iload dX6_fitsBy_44 rfl ?_
      refine v_iald dX6_fitsBy_46 (hX.2.1 3 0 (by decide)) (by omega) (by omega) (by decide) ?_
      have hgi := hnm (i).toNat (by omega)
      refine v_iloadn dX6_fitsBy_47 rfl ?_
      refine v_icmp_ne 75 dX6_fitsBy_48 (by decide) (by omega) (by omega) (fun h48 => ?_) (fun h48 => ?_)
      · refine v_iinc dX6_fitsBy_75 rfl (Nat.le_of_ble_eq_true rfl) ?_
        refine v_goto 33 dX6_fitsBy_78 (by decide) ?_
        refine wV.locs (lv' := [(0, .ref (fw 0 0)), (1, .int (gI a)), (2, .int (gI b)), (3, .int (gI f)), (4, .int (gI u)), (5, .int (gI _))]) ⟨rfl, rfl, rfl, rfl, rfl, rfl, trivial⟩ (ih _ _ _ (by omega) (by omega) hX hO hK (by omega))
      · refine v_aloadn dX6_fitsBy_51 rfl ?_
        refine v_iload dX6_fitsBy_52 rfl ?_
        refine v_iloadn dX6_fitsBy_54 rfl ?_
        refine v_callV (tX6_seekDifferences hX (by omega) (by omega)) lc_X6_128 ⟨(Nat.le_of_ble_eq_true rfl), (Nat.le_of_ble_eq_true rfl)⟩ dX6_fitsBy_55 rfl rfl (Nat.le_of_ble_eq_true rfl) ⟨(Nat.le_of_ble_eq_true rfl), (Nat.le_of_ble_eq_true rfl)⟩ ⟨_, _, _, _, (hX.2.1 0 0 (by decide)), rfl⟩ (kV fun M55 hp55 => ?_)
        obtain ⟨s55, hX, hO55, hK55⟩ := hp55
        have hO := hO.tr hO55
        have hK := hK.tr hK55
        have h0 := hX.2.2.1
        have hnm := hX.2.2.2.1
        have hsh := hX.2.2.2.2.1
        have h8 := hX.2.2.2.2.2.1
        refine v_aloadn dX6_fitsBy_58 rfl ?_
        refine v_get dX6_fitsBy_59 gf_X6_46 (hX.2.1 0 0 (by decide)) rfl ?_
        refine v_iloadn dX6_fitsBy_62 rfl ?_
        refine v_iload dX6_fitsBy_63 rfl ?_
        refine v_callV (tX5_start hX (by omega) (by omega)) lc_X6_144 ⟨(Nat.le_of_ble_eq_true rfl), (Nat.le_of_ble_eq_true rfl)⟩ dX6_fitsBy_65 rfl rfl (Nat.le_of_ble_eq_true rfl) ⟨(Nat.le_of_ble_eq_true rfl), (Nat.le_of_ble_eq_true rfl)⟩ ⟨_, _, _, _, hX.2.1 8 0 (by decide), rfl⟩ (kP fun r65 hr65 hp65 => ?_)
        refine v_iload dX6_fitsBy_68 rfl ?_
        refine v_icmp_ge 75 dX6_fitsBy_70 (by decide) (by omega) (by omega) (fun h70 => ?_) (fun h70 => ?_)
        · refine v_iinc dX6_fitsBy_75 rfl (Nat.le_of_ble_eq_true rfl) ?_
          refine v_goto 33 dX6_fitsBy_78 (by decide) ?_
          refine wV.locs (lv' := [(0, .ref (fw 0 0)), (1, .int (gI a)), (2, .int (gI b)), (3, .int (gI f)), (4, .int (gI u)), (5, .int (gI _))]) ⟨rfl, rfl, rfl, rfl, rfl, rfl, trivial⟩ (ih _ _ _ (by omega) (by omega) hX hO hK (by omega))
        · refine v_iconst dX6_fitsBy_73 ?_
          exact v_zret dX6_fitsBy_74 rfl ⟨(Nat.le_of_ble_eq_true rfl), (Nat.le_of_ble_eq_true rfl)⟩ (by omega) ⟨_, hX, hO, hK, by omega⟩
set_option maxHeartbeats 4000000 in
set_option maxRecDepth 100000 in
theorem tX6_fitsBy {G : gG} {fw : Nat → Nat → Nat} {si : sG} {Mi : wM} (hX : wX G fw si Mi) {a b : Int} (ha : rng a) (hb : bt (-50) b 50) : wT G qX6_fitsBy 0 0 [.ref (fw 0 0), .int (gI a), .int (gI b)] Mi (PX G fw Mi (fun x s' => keepX si s' ∧ (x = 0 ∨ x = 1))) := by
  refine wT.intro (by decide) (Nat.le_of_ble_eq_true rfl) (fun sz => ?_)
  have hO : wO cntX fw Mi Mi := wO.rf
  have hK : keepX si si := keepX.rf
  have h0 := hX.2.2.1
  have hnm := hX.2.2.2.1
  have hsh := hX.2.2.2.2.1
  have h8 := hX.2.2.2.2.2.1
  refine v_iconst dX6_fitsBy_0 ?_
  refine v_iloadn dX6_fitsBy_1 rfl ?_
  refine v_ineg dX6_fitsBy_2 ?_
  refine v_max dX6_fitsBy_3 lc_X6_219 (Nat.le_of_ble_eq_true rfl) (Nat.le_of_ble_eq_true rfl) ⟨(Nat.le_of_ble_eq_true rfl), (Nat.le_of_ble_eq_true rfl)⟩ (by omega) (by omega) ?_
  obtain ⟨f, hf⟩ : ∃ z, z = (if 0 < -b then -b else 0) := ⟨_, rfl⟩
  rw [← hf]
  have hfb : bt 0 f 50 := by rw [hf]; split <;> omega
  refine v_istoren dX6_fitsBy_6 (Nat.le_of_ble_eq_true rfl) ?_
  refine v_aloadn dX6_fitsBy_7 rfl ?_
  refine v_get dX6_fitsBy_8 gf_X6_54 (hX.2.1 0 0 (by decide)) rfl ?_
  refine v_aloadn dX6_fitsBy_11 rfl ?_
  refine v_get dX6_fitsBy_12 gf_X6_54 (hX.2.1 0 0 (by decide)) rfl ?_
  refine v_iloadn dX6_fitsBy_15 rfl ?_
  refine v_isub dX6_fitsBy_16 ?_
  refine v_min dX6_fitsBy_17 lc_X6_224 (Nat.le_of_ble_eq_true rfl) (Nat.le_of_ble_eq_true rfl) ⟨(Nat.le_of_ble_eq_true rfl), (Nat.le_of_ble_eq_true rfl)⟩ (by omega) (by omega) ?_
  obtain ⟨u, hu⟩ : ∃ z, z = (if si 0 0 9 - b < si 0 0 9 then si 0 0 9 - b else si 0 0 9) := ⟨_, rfl⟩
  rw [← hu]
  have hub : bt (-60) u 4000 := by rw [hu]; split <;> omega
  refine v_istore dX6_fitsBy_20 (Nat.le_of_ble_eq_true rfl) ?_
  refine v_iloadn dX6_fitsBy_22 rfl ?_
  refine v_iload dX6_fitsBy_23 rfl ?_
  refine v_icmp_lt 30 dX6_fitsBy_25 (by decide) (by omega) (by omega) (fun h25 => ?_) (fun h25 => ?_)
  · refine v_iconst dX6_fitsBy_30 ?_
    refine v_istore dX6_fitsBy_31 (Nat.le_of_ble_eq_true rfl) ?_
    refine wV.locs (lv' := [(0, .ref (fw 0 0)), (1, .int (gI a)), (2, .int (gI b)), (3, .int (gI f)), (4, .int (gI u)), (5, .int (gI (0)))]) ⟨rfl, rfl, rfl, rfl, rfl, rfl, trivial⟩ (tX6_fitsBy_loop ha hb (by omega) (by omega) 20 _ _ _ (by omega) (by omega) hX hO hK (by omega))
  · refine v_iconst dX6_fitsBy_28 ?_
    exact v_zret dX6_fitsBy_29 rfl ⟨(Nat.le_of_ble_eq_true rfl), (Nat.le_of_ble_eq_true rfl)⟩ (by omega) ⟨si, hX, hO, hK, by omega⟩
set_option maxHeartbeats 4000000 in
set_option maxRecDepth 100000 in
theorem tX6_fit_loop {sz : Nat} {M0 : wM} {G : gG} {fw : Nat → Nat → Nat} {si : sG} {Mi : wM} {a : Int} (ha : rng a) : ∀ (k : Nat) (s : sG) (M : wM) (i : Int), 0 ≤ 52 - i → 52 - i < (k : Int) → (wX G fw s M) → (wO cntX fw Mi M) → (keepX si s) → (bt 0 i 51) → wV G qX6_fit 0 0 sz M0 0 0 27 [(0, .ref (fw 0 0)), (1, .int (gI a)), (2, .int (gI i))] [] M (PX G fw Mi (fun x s' => keepX si s')) := by
  intro k
  induction k with
  | zero =>
    intros
    omega
  | succ k ih =>
    intro s M i hmz hml hX hO hK h1
    have h0 := hX.2.2.1
    have hnm := hX.2.2.2.1
    have hsh := hX.2.2.2.2.1
    have h8 := hX.2.2.2.2.2.1
    refine v_iloadn dX6_fit_27 rfl ?_
    refine v_bipush dX6_fit_28 (by decide) ?_
    refine v_icmp_gt 63 dX6_fit_30 (by decide) (by omega) (by omega) (fun h30 => ?_) (fun h30 => ?_)
    · refine v_sipush dX6_fit_63 (by decide) ?_
      exact v_iret dX6_fit_66 rfl ⟨(Nat.le_of_ble_eq_true rfl), (Nat.le_of_ble_eq_true rfl)⟩ (by omega) ⟨_, hX, hO, hK⟩
    · refine v_aloadn dX6_fit_33 rfl ?_
      refine v_iloadn dX6_fit_34 rfl ?_
      refine v_iloadn dX6_fit_35 rfl ?_
      refine v_ineg dX6_fit_36 ?_
      refine v_callV (tX6_fitsBy hX (by omega) (by omega)) lc_X6_216 ⟨(Nat.le_of_ble_eq_true rfl), (Nat.le_of_ble_eq_true rfl)⟩ dX6_fit_37 rfl rfl (Nat.le_of_ble_eq_true rfl) ⟨(Nat.le_of_ble_eq_true rfl), (Nat.le_of_ble_eq_true rfl)⟩ ⟨_, _, _, _, (hX.2.1 0 0 (by decide)), rfl⟩ (kI fun r37 M37 hr37 hp37 => ?_)
      obtain ⟨s37, hX, hO37, hK37, hz37⟩ := hp37
      have hO := hO.tr hO37
      have hK := hK.tr hK37
      have h0 := hX.2.2.1
      have hnm := hX.2.2.2.1
      have hsh := hX.2.2.2.2.1
      have h8 := hX.2.2.2.2.2.1
      refine v_if_eq 46 dX6_fit_40 (by decide) (by omega) (fun h40 => ?_) (fun h40 => ?_)
      · refine v_aloadn dX6_fit_46 rfl ?_
        refine v_iloadn dX6_fit_47 rfl ?_
        refine v_iloadn dX6_fit_48 rfl ?_
        refine v_callV (tX6_fitsBy hX (by omega) (by omega)) lc_X6_216 ⟨(Nat.le_of_ble_eq_true rfl), (Nat.le_of_ble_eq_true rfl)⟩ dX6_fit_49 rfl rfl (Nat.le_of_ble_eq_true rfl) ⟨(Nat.le_of_ble_eq_true rfl), (Nat.le_of_ble_eq_true rfl)⟩ ⟨_, _, _, _, (hX.2.1 0 0 (by decide)), rfl⟩ (kI fun r49 M49 hr49 hp49 => ?_)
        obtain ⟨s49, hX, hO49, hK49, hz49⟩ := hp49
        have hO := hO.tr hO49
        have hK := hK.tr hK49
        have h0 := hX.2.2.1
        have hnm := hX.2.2.2.1
        have hsh := hX.2.2.2.2.1
        have h8 := hX.2.2.2.2.2.1
        refine v_if_eq 57 dX6_fit_52 (by decide) (by omega) (fun h52 => ?_) (fun h52 => ?_)
        · refine v_iinc dX6_fit_57 rfl (Nat.le_of_ble_eq_true rfl) ?_
          refine v_goto 27 dX6_fit_60 (by decide) ?_
          refine wV.locs (lv' := [(0, .ref (fw 0 0)), (1, .int (gI a)), (2, .int (gI _))]) ⟨rfl, rfl, rfl, trivial⟩ (ih _ _ _ (by omega) (by omega) hX hO hK (by omega))
        · refine v_iloadn dX6_fit_55 rfl ?_
          exact v_iret dX6_fit_56 rfl ⟨(Nat.le_of_ble_eq_true rfl), (Nat.le_of_ble_eq_true rfl)⟩ (by omega) ⟨_, hX, hO, hK⟩
      · refine v_iloadn dX6_fit_43 rfl ?_
        refine v_ineg dX6_fit_44 ?_
        exact v_iret dX6_fit_45 rfl ⟨(Nat.le_of_ble_eq_true rfl), (Nat.le_of_ble_eq_true rfl)⟩ (by omega) ⟨_, hX, hO, hK⟩
set_option maxHeartbeats 4000000 in
set_option maxRecDepth 100000 in
theorem tX6_fit {G : gG} {fw : Nat → Nat → Nat} {si : sG} {Mi : wM} (hX : wX G fw si Mi) {a : Int} (ha : rng a) : wT G qX6_fit 0 0 [.ref (fw 0 0), .int (gI a)] Mi (PX G fw Mi (fun x s' => keepX si s')) := by
  refine wT.intro (by decide) (Nat.le_of_ble_eq_true rfl) (fun sz => ?_)
  have hO : wO cntX fw Mi Mi := wO.rf
  have hK : keepX si si := keepX.rf
  refine v_iloadn dX6_fit_0 rfl ?_
  refine v_iconst dX6_fit_1 ?_
  refine v_iconst dX6_fit_2 ?_
  refine v_callS (tX6_outside (by omega) (by omega) (by omega)) lc_X6_69 ⟨(Nat.le_of_ble_eq_true rfl), (Nat.le_of_ble_eq_true rfl)⟩ dX6_fit_3 rfl rfl (Nat.le_of_ble_eq_true rfl) ⟨(Nat.le_of_ble_eq_true rfl), (Nat.le_of_ble_eq_true rfl)⟩ (kP fun r3 hr3 hp3 => ?_)
  refine v_if_eq 13 dX6_fit_6 (by decide) (by omega) (fun h6 => ?_) (fun h6 => ?_)
  · refine v_aloadn dX6_fit_13 rfl ?_
    refine v_iloadn dX6_fit_14 rfl ?_
    refine v_callV (tX6_hasSignals hX (by omega)) lc_X6_213 ⟨(Nat.le_of_ble_eq_true rfl), (Nat.le_of_ble_eq_true rfl)⟩ dX6_fit_15 rfl rfl (Nat.le_of_ble_eq_true rfl) ⟨(Nat.le_of_ble_eq_true rfl), (Nat.le_of_ble_eq_true rfl)⟩ ⟨_, _, _, _, (hX.2.1 0 0 (by decide)), rfl⟩ (kP fun r15 hr15 hp15 => ?_)
    refine v_if_ne 25 dX6_fit_18 (by decide) (by omega) (fun h18 => ?_) (fun h18 => ?_)
    · refine v_iconst dX6_fit_25 ?_
      refine v_istoren dX6_fit_26 (Nat.le_of_ble_eq_true rfl) ?_
      refine wV.locs (lv' := [(0, .ref (fw 0 0)), (1, .int (gI a)), (2, .int (gI (0)))]) ⟨rfl, rfl, rfl, trivial⟩ (tX6_fit_loop ha 60 _ _ _ (by omega) (by omega) hX hO hK (by omega))
    · refine v_sipush dX6_fit_21 (by decide) ?_
      exact v_iret dX6_fit_24 rfl ⟨(Nat.le_of_ble_eq_true rfl), (Nat.le_of_ble_eq_true rfl)⟩ (by omega) ⟨si, hX, hO, hK⟩
  · refine v_sipush dX6_fit_9 (by decide) ?_
    exact v_iret dX6_fit_12 rfl ⟨(Nat.le_of_ble_eq_true rfl), (Nat.le_of_ble_eq_true rfl)⟩ (by omega) ⟨si, hX, hO, hK⟩
end
section
set_option maxHeartbeats 4000000 in
set_option maxRecDepth 100000 in
theorem tX6_hadOneAhead {G : gG} {fw : Nat → Nat → Nat} {s : sG} {M : wM} (hX : wX G fw s M) {a b t : Int} (ha : bt 0 a 1) (hb : bt 0 b 11) (ht : bt (-10) t 4000) : wT G qX6_hadOneAhead 0 0 [.ref (fw 0 0), .int (gI a), .int (gI b), .int (gI t)] M (iP fun x M' => M' = M ∧ (x = 0 ∨ x = 1)) := by
  refine wT.intro (by decide) (Nat.le_of_ble_eq_true rfl) (fun sz => ?_)
  refine v_aloadn dX6_hadOneAhead_0 rfl ?_
  refine v_iloadn dX6_hadOneAhead_1 rfl ?_
  refine v_iloadn dX6_hadOneAhead_2 rfl ?_
  refine v_callV (tX6_namedRow hX ha hb) lc_X6_154 ⟨(Nat.le_of_ble_eq_true rfl), (Nat.le_of_ble_eq_true rfl)⟩ dX6_hadOneAhead_3 rfl rfl (Nat.le_of_ble_eq_true rfl) ⟨(Nat.le_of_ble_eq_true rfl), (Nat.le_of_ble_eq_true rfl)⟩ ⟨_, _, _, _, (hX.2.1 0 0 (by decide)), rfl⟩ (kRp fun r3 hp3 => ?_)
  subst hp3
  refine v_iloadn dX6_hadOneAhead_6 rfl ?_
  refine v_iconst dX6_hadOneAhead_7 ?_
  refine v_isub dX6_hadOneAhead_8 ?_
  refine v_callV (tX4_valueAt (hX.row (nmd_lt hX.2.2 (by omega) (by omega))) (by omega)) lc_X6_110 ⟨(Nat.le_of_ble_eq_true rfl), (Nat.le_of_ble_eq_true rfl)⟩ dX6_hadOneAhead_9 rfl rfl (Nat.le_of_ble_eq_true rfl) ⟨(Nat.le_of_ble_eq_true rfl), (Nat.le_of_ble_eq_true rfl)⟩ ⟨_, _, _, _, (hX.row (nmd_lt hX.2.2 (by omega) (by omega))).1, rfl⟩ (kP fun r9 hr9 hp9 => ?_)
  refine v_iconst dX6_hadOneAhead_12 ?_
  refine v_icmp_ne 20 dX6_hadOneAhead_13 (by decide) (by omega) (by omega) (fun h13 => ?_) (fun h13 => ?_)
  · refine v_iconst dX6_hadOneAhead_20 ?_
    exact v_zret dX6_hadOneAhead_21 rfl ⟨(Nat.le_of_ble_eq_true rfl), (Nat.le_of_ble_eq_true rfl)⟩ (by omega) ⟨rfl, by omega⟩
  · refine v_iconst dX6_hadOneAhead_16 ?_
    refine v_goto 21 dX6_hadOneAhead_17 (by decide) ?_
    exact v_zret dX6_hadOneAhead_21 rfl ⟨(Nat.le_of_ble_eq_true rfl), (Nat.le_of_ble_eq_true rfl)⟩ (by omega) ⟨rfl, by omega⟩
set_option maxHeartbeats 4000000 in
set_option maxRecDepth 100000 in
theorem tX6_dataAhead {G : gG} {fw : Nat → Nat → Nat} {s : sG} {M : wM} (hX : wX G fw s M) {i : Nat} (hi : i < 4) {a t : Int} (ha : bt 0 a 1) (ht : bt (-10) t 4000) : wT G qX6_dataAhead 0 0 [.ref (fw 0 0), .ref (fw 14 i), .int (gI a), .int (gI t)] M (iP fun x M' => M' = M ∧ bt 0 x 256) := by
  refine wT.intro (by decide) (Nat.le_of_ble_eq_true rfl) (fun sz => ?_)
  have hch := hX.2.2.2.2.2.2.2.2.1 i hi
  refine v_aloadn dX6_dataAhead_0 rfl ?_
  refine v_iloadn dX6_dataAhead_1 rfl ?_
  refine v_aloadn dX6_dataAhead_2 rfl ?_
  refine v_getN dX6_dataAhead_3 gf_X6_210 (hX.2.1 14 i hi) rfl ?_
  refine v_callV (tX6_namedRow hX ha (by omega)) lc_X6_154 ⟨(Nat.le_of_ble_eq_true rfl), (Nat.le_of_ble_eq_true rfl)⟩ dX6_dataAhead_6 rfl rfl (Nat.le_of_ble_eq_true rfl) ⟨(Nat.le_of_ble_eq_true rfl), (Nat.le_of_ble_eq_true rfl)⟩ ⟨_, _, _, _, (hX.2.1 0 0 (by decide)), rfl⟩ (kRp fun r6 hp6 => ?_)
  subst hp6
  refine v_iloadn dX6_dataAhead_9 rfl ?_
  refine v_iconst dX6_dataAhead_10 ?_
  refine v_isub dX6_dataAhead_11 ?_
  refine v_callV (tX4_valueAt (hX.row (nmd_lt hX.2.2 (by omega) (by omega))) (by omega)) lc_X6_110 ⟨(Nat.le_of_ble_eq_true rfl), (Nat.le_of_ble_eq_true rfl)⟩ dX6_dataAhead_12 rfl rfl (Nat.le_of_ble_eq_true rfl) ⟨(Nat.le_of_ble_eq_true rfl), (Nat.le_of_ble_eq_true rfl)⟩ ⟨_, _, _, _, (hX.row (nmd_lt hX.2.2 (by omega) (by omega))).1, rfl⟩ (kP fun r12 hr12 hp12 => ?_)
  obtain ⟨ix12, hl12, hv12⟩ := hp12
  have hvb12 : bt 0 r12 256 := by rw [hv12]; exact valF_rg (hX.row (nmd_lt hX.2.2 (by omega) (by omega))).2.2.2 ix12
  exact v_iret dX6_dataAhead_15 rfl ⟨(Nat.le_of_ble_eq_true rfl), (Nat.le_of_ble_eq_true rfl)⟩ (by omega) ⟨rfl, by omega⟩
set_option maxHeartbeats 4000000 in
set_option maxRecDepth 100000 in
theorem tX6_nextAct_loop {sz : Nat} {M0 : wM} {G : gG} {fw : Nat → Nat → Nat} {s : sG} {M : wM} (hX : wX G fw s M) {i : Nat} (hi : i < 4) {a t : Int} (ha : bt 0 a 1) {j : Nat} (hj : j < 45) : ∀ (k : Nat) (e u : Int), 0 ≤ 4001 - u → 4001 - u < (k : Int) → (bt 0 u 4000) → (e = -4 ∨ bt 1 e 4000) → wV G qX6_nextAct 0 0 sz M0 0 0 26 [(0, .ref (fw 0 0)), (1, .ref (fw 14 i)), (2, .int (gI a)), (3, .int (gI t)), (4, .ref (fw 10 j)), (5, .int (gI e)), (6, .int (gI u))] [] M (iP fun x M' => M' = M ∧ (x = -4 ∨ bt 1 x 4000)) := by
  intro k
  induction k with
  | zero =>
    intros
    omega
  | succ k ih =>
    intro e u hmz hml h1 h2
    have h0 := hX.2.2.1
    have hnm := hX.2.2.2.1
    have hsh := hX.2.2.2.2.1
    have h8 := hX.2.2.2.2.2.1
    have hch := hX.2.2.2.2.2.2.2.2.1 i hi
    refine v_iload dX6_nextAct_26 rfl ?_
    refine v_sipush dX6_nextAct_28 (by decide) ?_
    refine v_icmp_ge 91 dX6_nextAct_31 (by decide) (by omega) (by omega) (fun h31 => ?_) (fun h31 => ?_)
    · refine v_bipush dX6_nextAct_91 (by decide) ?_
      exact v_iret dX6_nextAct_93 rfl ⟨(Nat.le_of_ble_eq_true rfl), (Nat.le_of_ble_eq_true rfl)⟩ (by omega) ⟨rfl, by omega⟩
    · refine v_iload dX6_nextAct_34 rfl ?_
      refine v_bipush dX6_nextAct_36 (by decide) ?_
      refine v_icmp_eq 91 dX6_nextAct_38 (by decide) (by omega) (by omega) (fun h38 => ?_) (fun h38 => ?_)
      · refine v_bipush dX6_nextAct_91 (by decide) ?_
        exact v_iret dX6_nextAct_93 rfl ⟨(Nat.le_of_ble_eq_true rfl), (Nat.le_of_ble_eq_true rfl)⟩ (by omega) ⟨rfl, by omega⟩
      · refine v_aloadn dX6_nextAct_41 rfl ?_
        refine v_iloadn dX6_nextAct_42 rfl ?_
        refine v_aloadn dX6_nextAct_43 rfl ?_
        refine v_getN dX6_nextAct_44 gf_X6_201 (hX.2.1 14 i hi) rfl ?_
        refine v_iload dX6_nextAct_47 rfl ?_
        refine v_callV (tX6_hadOneAhead hX ha (by omega) (by omega)) lc_X6_204 ⟨(Nat.le_of_ble_eq_true rfl), (Nat.le_of_ble_eq_true rfl)⟩ dX6_nextAct_49 rfl rfl (Nat.le_of_ble_eq_true rfl) ⟨(Nat.le_of_ble_eq_true rfl), (Nat.le_of_ble_eq_true rfl)⟩ ⟨_, _, _, _, (hX.2.1 0 0 (by decide)), rfl⟩ (kP fun r49 hr49 hp49 => ?_)
        refine v_if_eq 72 dX6_nextAct_52 (by decide) (by omega) (fun h52 => ?_) (fun h52 => ?_)
        · refine v_aload dX6_nextAct_72 rfl ?_
          refine v_iload dX6_nextAct_74 rfl ?_
          refine v_aloadn dX6_nextAct_76 rfl ?_
          refine v_get dX6_nextAct_77 gf_X6_54 (hX.2.1 0 0 (by decide)) rfl ?_
          refine v_callV (tX4_nextEdge (hX.row hj) (by omega) (by omega)) lc_X6_198 ⟨(Nat.le_of_ble_eq_true rfl), (Nat.le_of_ble_eq_true rfl)⟩ dX6_nextAct_80 rfl rfl (Nat.le_of_ble_eq_true rfl) ⟨(Nat.le_of_ble_eq_true rfl), (Nat.le_of_ble_eq_true rfl)⟩ ⟨_, _, _, _, (hX.row hj).1, rfl⟩ (kP fun r80 hr80 hp80 => ?_)
          refine v_istore dX6_nextAct_83 (Nat.le_of_ble_eq_true rfl) ?_
          refine v_iinc dX6_nextAct_85 rfl (Nat.le_of_ble_eq_true rfl) ?_
          refine v_goto 26 dX6_nextAct_88 (by decide) ?_
          refine wV.locs (lv' := [(0, .ref (fw 0 0)), (1, .ref (fw 14 i)), (2, .int (gI a)), (3, .int (gI t)), (4, .ref (fw 10 j)), (5, .int (gI _)), (6, .int (gI _))]) ⟨rfl, rfl, rfl, rfl, rfl, rfl, rfl, trivial⟩ (ih _ _ (by omega) (by omega) (by omega) (by omega))
        · refine v_aloadn dX6_nextAct_55 rfl ?_
          refine v_iloadn dX6_nextAct_56 rfl ?_
          refine v_aloadn dX6_nextAct_57 rfl ?_
          refine v_getN dX6_nextAct_58 gf_X6_207 (hX.2.1 14 i hi) rfl ?_
          refine v_iload dX6_nextAct_61 rfl ?_
          refine v_callV (tX6_hadOneAhead hX ha (by omega) (by omega)) lc_X6_204 ⟨(Nat.le_of_ble_eq_true rfl), (Nat.le_of_ble_eq_true rfl)⟩ dX6_nextAct_63 rfl rfl (Nat.le_of_ble_eq_true rfl) ⟨(Nat.le_of_ble_eq_true rfl), (Nat.le_of_ble_eq_true rfl)⟩ ⟨_, _, _, _, (hX.2.1 0 0 (by decide)), rfl⟩ (kP fun r63 hr63 hp63 => ?_)
          refine v_if_eq 72 dX6_nextAct_66 (by decide) (by omega) (fun h66 => ?_) (fun h66 => ?_)
          · refine v_aload dX6_nextAct_72 rfl ?_
            refine v_iload dX6_nextAct_74 rfl ?_
            refine v_aloadn dX6_nextAct_76 rfl ?_
            refine v_get dX6_nextAct_77 gf_X6_54 (hX.2.1 0 0 (by decide)) rfl ?_
            refine v_callV (tX4_nextEdge (hX.row hj) (by omega) (by omega)) lc_X6_198 ⟨(Nat.le_of_ble_eq_true rfl), (Nat.le_of_ble_eq_true rfl)⟩ dX6_nextAct_80 rfl rfl (Nat.le_of_ble_eq_true rfl) ⟨(Nat.le_of_ble_eq_true rfl), (Nat.le_of_ble_eq_true rfl)⟩ ⟨_, _, _, _, (hX.row hj).1, rfl⟩ (kP fun r80 hr80 hp80 => ?_)
            refine v_istore dX6_nextAct_83 (Nat.le_of_ble_eq_true rfl) ?_
            refine v_iinc dX6_nextAct_85 rfl (Nat.le_of_ble_eq_true rfl) ?_
            refine v_goto 26 dX6_nextAct_88 (by decide) ?_
            refine wV.locs (lv' := [(0, .ref (fw 0 0)), (1, .ref (fw 14 i)), (2, .int (gI a)), (3, .int (gI t)), (4, .ref (fw 10 j)), (5, .int (gI _)), (6, .int (gI _))]) ⟨rfl, rfl, rfl, rfl, rfl, rfl, rfl, trivial⟩ (ih _ _ (by omega) (by omega) (by omega) (by omega))
          · refine v_iload dX6_nextAct_69 rfl ?_
            exact v_iret dX6_nextAct_71 rfl ⟨(Nat.le_of_ble_eq_true rfl), (Nat.le_of_ble_eq_true rfl)⟩ (by omega) ⟨rfl, by omega⟩
set_option maxHeartbeats 4000000 in
set_option maxRecDepth 100000 in
theorem tX6_nextAct {G : gG} {fw : Nat → Nat → Nat} {s : sG} {M : wM} (hX : wX G fw s M) {i : Nat} (hi : i < 4) {a t : Int} (ha : bt 0 a 1) (ht : bt (-10) t 4000) : wT G qX6_nextAct 0 0 [.ref (fw 0 0), .ref (fw 14 i), .int (gI a), .int (gI t)] M (iP fun x M' => M' = M ∧ (x = -4 ∨ bt 1 x 4000)) := by
  refine wT.intro (by decide) (Nat.le_of_ble_eq_true rfl) (fun sz => ?_)
  have h0 := hX.2.2.1
  have hnm := hX.2.2.2.1
  have hsh := hX.2.2.2.2.1
  have h8 := hX.2.2.2.2.2.1
  have hch := hX.2.2.2.2.2.2.2.2.1 i hi
  refine v_aloadn dX6_nextAct_0 rfl ?_
  refine v_iloadn dX6_nextAct_1 rfl ?_
  refine v_aloadn dX6_nextAct_2 rfl ?_
  refine v_getN dX6_nextAct_3 gf_X6_195 (hX.2.1 14 i hi) rfl ?_
  refine v_callV (tX6_namedRow hX ha (by omega)) lc_X6_154 ⟨(Nat.le_of_ble_eq_true rfl), (Nat.le_of_ble_eq_true rfl)⟩ dX6_nextAct_6 rfl rfl (Nat.le_of_ble_eq_true rfl) ⟨(Nat.le_of_ble_eq_true rfl), (Nat.le_of_ble_eq_true rfl)⟩ ⟨_, _, _, _, (hX.2.1 0 0 (by decide)), rfl⟩ (kRp fun r6 hp6 => ?_)
  subst hp6
  refine v_astore dX6_nextAct_9 (Nat.le_of_ble_eq_true rfl) ?_
  refine v_aload dX6_nextAct_11 rfl ?_
  refine v_iloadn dX6_nextAct_13 rfl ?_
  refine v_aloadn dX6_nextAct_14 rfl ?_
  refine v_get dX6_nextAct_15 gf_X6_54 (hX.2.1 0 0 (by decide)) rfl ?_
  refine v_callV (tX4_nextEdge (hX.row (nmd_lt hX.2.2 (by omega) (by omega))) (by omega) (by omega)) lc_X6_198 ⟨(Nat.le_of_ble_eq_true rfl), (Nat.le_of_ble_eq_true rfl)⟩ dX6_nextAct_18 rfl rfl (Nat.le_of_ble_eq_true rfl) ⟨(Nat.le_of_ble_eq_true rfl), (Nat.le_of_ble_eq_true rfl)⟩ ⟨_, _, _, _, (hX.row (nmd_lt hX.2.2 (by omega) (by omega))).1, rfl⟩ (kP fun r18 hr18 hp18 => ?_)
  refine v_istore dX6_nextAct_21 (Nat.le_of_ble_eq_true rfl) ?_
  refine v_iconst dX6_nextAct_23 ?_
  refine v_istore dX6_nextAct_24 (Nat.le_of_ble_eq_true rfl) ?_
  refine wV.locs (lv' := [(0, .ref (fw 0 0)), (1, .ref (fw 14 i)), (2, .int (gI a)), (3, .int (gI t)), (4, .ref (fw 10 _)), (5, .int (gI (_))), (6, .int (gI (0)))]) ⟨rfl, rfl, rfl, rfl, rfl, rfl, rfl, trivial⟩ (tX6_nextAct_loop hX hi ha (nmd_lt hX.2.2 (by omega) (by omega)) 4010 _ _ (by omega) (by omega) (by omega) (by omega))
set_option maxHeartbeats 4000000 in
set_option maxRecDepth 100000 in
theorem tX6_act_loop {sz : Nat} {M0 : wM} {G : gG} {fw : Nat → Nat → Nat} {s : sG} {M : wM} (hX : wX G fw s M) {i : Nat} (hi : i < 4) {a c n w : Int} (ha : bt 0 a 1) (hn : rng n) (hw : bt 0 w 1) : ∀ (k : Nat) (v e u : Int), 0 ≤ 4001 - u → 4001 - u < (k : Int) → (bt 0 u 4000) → (e = -4 ∨ bt 1 e 4000) → (bt 0 v u) → wV G qX6_act 0 0 sz M0 0 0 70 [(0, .ref (fw 0 0)), (1, .int (gI c)), (2, .int (gI a)), (3, .int (gI n)), (4, .int (gI w)), (5, .ref (fw 14 i)), (6, .int (gI v)), (7, .int (gI e)), (8, .int (gI u))] [] M (iP fun x M' => M' = M ∧ True) := by
  intro k
  induction k with
  | zero =>
    intros
    omega
  | succ k ih =>
    intro v e u hmz hml h1 h2 h3
    have h0 := hX.2.2.1
    have hnm := hX.2.2.2.1
    have hsh := hX.2.2.2.2.1
    have h8 := hX.2.2.2.2.2.1
    have hch := hX.2.2.2.2.2.2.2.2.1 i hi
    refine v_iload dX6_act_70 rfl ?_
    refine v_sipush dX6_act_72 (by decide) ?_
    refine v_icmp_ge 131 dX6_act_75 (by decide) (by omega) (by omega) (fun h75 => ?_) (fun h75 => ?_)
    · refine v_iloadn dX6_act_131 rfl ?_
      refine v_iconst dX6_act_132 ?_
      refine v_icmp_ne 141 dX6_act_133 (by decide) (by omega) (by omega) (fun h133 => ?_) (fun h133 => ?_)
      · refine v_bipush dX6_act_141 (by decide) ?_
        exact v_iret dX6_act_143 rfl ⟨(Nat.le_of_ble_eq_true rfl), (Nat.le_of_ble_eq_true rfl)⟩ (by omega) ⟨rfl, trivial⟩
      · refine v_iload dX6_act_136 rfl ?_
        refine v_goto 143 dX6_act_138 (by decide) ?_
        exact v_iret dX6_act_143 rfl ⟨(Nat.le_of_ble_eq_true rfl), (Nat.le_of_ble_eq_true rfl)⟩ (by omega) ⟨rfl, trivial⟩
    · refine v_iload dX6_act_78 rfl ?_
      refine v_bipush dX6_act_80 (by decide) ?_
      refine v_icmp_eq 131 dX6_act_82 (by decide) (by omega) (by omega) (fun h82 => ?_) (fun h82 => ?_)
      · refine v_iloadn dX6_act_131 rfl ?_
        refine v_iconst dX6_act_132 ?_
        refine v_icmp_ne 141 dX6_act_133 (by decide) (by omega) (by omega) (fun h133 => ?_) (fun h133 => ?_)
        · refine v_bipush dX6_act_141 (by decide) ?_
          exact v_iret dX6_act_143 rfl ⟨(Nat.le_of_ble_eq_true rfl), (Nat.le_of_ble_eq_true rfl)⟩ (by omega) ⟨rfl, trivial⟩
        · refine v_iload dX6_act_136 rfl ?_
          refine v_goto 143 dX6_act_138 (by decide) ?_
          exact v_iret dX6_act_143 rfl ⟨(Nat.le_of_ble_eq_true rfl), (Nat.le_of_ble_eq_true rfl)⟩ (by omega) ⟨rfl, trivial⟩
      · refine v_iload dX6_act_85 rfl ?_
        refine v_iloadn dX6_act_87 rfl ?_
        refine v_icmp_ne 111 dX6_act_88 (by decide) (by omega) (by omega) (fun h88 => ?_) (fun h88 => ?_)
        · refine v_iinc dX6_act_111 rfl (Nat.le_of_ble_eq_true rfl) ?_
          refine v_aloadn dX6_act_114 rfl ?_
          refine v_aload dX6_act_115 rfl ?_
          refine v_iloadn dX6_act_117 rfl ?_
          refine v_iload dX6_act_118 rfl ?_
          refine v_callV (tX6_nextAct hX hi (by omega) (by omega)) lc_X6_184 ⟨(Nat.le_of_ble_eq_true rfl), (Nat.le_of_ble_eq_true rfl)⟩ dX6_act_120 rfl rfl (Nat.le_of_ble_eq_true rfl) ⟨(Nat.le_of_ble_eq_true rfl), (Nat.le_of_ble_eq_true rfl)⟩ ⟨_, _, _, _, (hX.2.1 0 0 (by decide)), rfl⟩ (kP fun r120 hr120 hp120 => ?_)
          refine v_istore dX6_act_123 (Nat.le_of_ble_eq_true rfl) ?_
          refine v_iinc dX6_act_125 rfl (Nat.le_of_ble_eq_true rfl) ?_
          refine v_goto 70 dX6_act_128 (by decide) ?_
          refine wV.locs (lv' := [(0, .ref (fw 0 0)), (1, .int (gI c)), (2, .int (gI a)), (3, .int (gI n)), (4, .int (gI w)), (5, .ref (fw 14 i)), (6, .int (gI _)), (7, .int (gI _)), (8, .int (gI _))]) ⟨rfl, rfl, rfl, rfl, rfl, rfl, rfl, rfl, rfl, trivial⟩ (ih _ _ _ (by omega) (by omega) (by omega) (by omega) (by omega))
        · refine v_iload dX6_act_91 rfl ?_
          refine v_if_ne 101 dX6_act_93 (by decide) (by omega) (fun h93 => ?_) (fun h93 => ?_)
          · refine v_aloadn dX6_act_101 rfl ?_
            refine v_aload dX6_act_102 rfl ?_
            refine v_iloadn dX6_act_104 rfl ?_
            refine v_iload dX6_act_105 rfl ?_
            refine v_callV (tX6_dataAhead hX hi (by omega) (by omega)) lc_X6_188 ⟨(Nat.le_of_ble_eq_true rfl), (Nat.le_of_ble_eq_true rfl)⟩ dX6_act_107 rfl rfl (Nat.le_of_ble_eq_true rfl) ⟨(Nat.le_of_ble_eq_true rfl), (Nat.le_of_ble_eq_true rfl)⟩ ⟨_, _, _, _, (hX.2.1 0 0 (by decide)), rfl⟩ (kP fun r107 hr107 hp107 => ?_)
            exact v_iret dX6_act_110 rfl ⟨(Nat.le_of_ble_eq_true rfl), (Nat.le_of_ble_eq_true rfl)⟩ (by omega) ⟨rfl, trivial⟩
          · refine v_iload dX6_act_96 rfl ?_
            refine v_goto 110 dX6_act_98 (by decide) ?_
            exact v_iret dX6_act_110 rfl ⟨(Nat.le_of_ble_eq_true rfl), (Nat.le_of_ble_eq_true rfl)⟩ (by omega) ⟨rfl, trivial⟩
set_option maxHeartbeats 4000000 in
set_option maxRecDepth 100000 in
theorem tX6_act {G : gG} {fw : Nat → Nat → Nat} {s : sG} {M : wM} (hX : wX G fw s M) {c a n w : Int} (hc : rng c) (ha : rng a) (hn : rng n) (hw : rng w) : wT G qX6_act 0 0 [.ref (fw 0 0), .int (gI c), .int (gI a), .int (gI n), .int (gI w)] M (iP fun x M' => M' = M ∧ True) := by
  refine wT.intro (by decide) (Nat.le_of_ble_eq_true rfl) (fun sz => ?_)
  have h0 := hX.2.2.1
  have hnm := hX.2.2.2.1
  have hsh := hX.2.2.2.2.1
  have h8 := hX.2.2.2.2.2.1
  refine v_iloadn dX6_act_0 rfl ?_
  refine v_iconst dX6_act_1 ?_
  refine v_iconst dX6_act_2 ?_
  refine v_callS (tX6_outside (by omega) (by omega) (by omega)) lc_X6_69 ⟨(Nat.le_of_ble_eq_true rfl), (Nat.le_of_ble_eq_true rfl)⟩ dX6_act_3 rfl rfl (Nat.le_of_ble_eq_true rfl) ⟨(Nat.le_of_ble_eq_true rfl), (Nat.le_of_ble_eq_true rfl)⟩ (kP fun r3 hr3 hp3 => ?_)
  refine v_if_ne 33 dX6_act_6 (by decide) (by omega) (fun h6 => ?_) (fun h6 => ?_)
  · refine v_iconst dX6_act_33 ?_
    exact v_iret dX6_act_34 rfl ⟨(Nat.le_of_ble_eq_true rfl), (Nat.le_of_ble_eq_true rfl)⟩ (by omega) ⟨rfl, trivial⟩
  · refine v_iloadn dX6_act_9 rfl ?_
    refine v_iconst dX6_act_10 ?_
    refine v_iconst dX6_act_11 ?_
    refine v_callS (tX6_outside (by omega) (by omega) (by omega)) lc_X6_69 ⟨(Nat.le_of_ble_eq_true rfl), (Nat.le_of_ble_eq_true rfl)⟩ dX6_act_12 rfl rfl (Nat.le_of_ble_eq_true rfl) ⟨(Nat.le_of_ble_eq_true rfl), (Nat.le_of_ble_eq_true rfl)⟩ (kP fun r12 hr12 hp12 => ?_)
    refine v_if_ne 33 dX6_act_15 (by decide) (by omega) (fun h15 => ?_) (fun h15 => ?_)
    · refine v_iconst dX6_act_33 ?_
      exact v_iret dX6_act_34 rfl ⟨(Nat.le_of_ble_eq_true rfl), (Nat.le_of_ble_eq_true rfl)⟩ (by omega) ⟨rfl, trivial⟩
    · refine v_iloadn dX6_act_18 rfl ?_
      refine v_iconst dX6_act_19 ?_
      refine v_icmp_lt 33 dX6_act_20 (by decide) (by omega) (by omega) (fun h20 => ?_) (fun h20 => ?_)
      · refine v_iconst dX6_act_33 ?_
        exact v_iret dX6_act_34 rfl ⟨(Nat.le_of_ble_eq_true rfl), (Nat.le_of_ble_eq_true rfl)⟩ (by omega) ⟨rfl, trivial⟩
      · refine v_iload dX6_act_23 rfl ?_
        refine v_iconst dX6_act_25 ?_
        refine v_iconst dX6_act_26 ?_
        refine v_callS (tX6_outside (by omega) (by omega) (by omega)) lc_X6_69 ⟨(Nat.le_of_ble_eq_true rfl), (Nat.le_of_ble_eq_true rfl)⟩ dX6_act_27 rfl rfl (Nat.le_of_ble_eq_true rfl) ⟨(Nat.le_of_ble_eq_true rfl), (Nat.le_of_ble_eq_true rfl)⟩ (kP fun r27 hr27 hp27 => ?_)
        refine v_if_eq 35 dX6_act_30 (by decide) (by omega) (fun h30 => ?_) (fun h30 => ?_)
        · refine v_aloadn dX6_act_35 rfl ?_
          refine v_get dX6_act_36 gf_X6_33 (hX.2.1 0 0 (by decide)) rfl ?_
          refine v_iloadn dX6_act_39 rfl ?_
          refine v_aald (cA := G.2.2 0) (Cn := "WavePairs$Channel") dX6_act_40 (hX.2.1 6 0 (by decide)) (by simp) (by omega) (by omega) (by decide) ?_
          have hch := hX.2.2.2.2.2.2.2.2.1 c.toNat (by omega)
          refine v_astore dX6_act_41 (Nat.le_of_ble_eq_true rfl) ?_
          refine v_aload dX6_act_43 rfl ?_
          refine v_getN dX6_act_45 gf_X6_181 (hX.2.1 14 _ (by simp [cntX]; omega)) rfl ?_
          refine v_if_ne 54 dX6_act_48 (by decide) (by omega) (fun h48 => ?_) (fun h48 => ?_)
          · refine v_iconst dX6_act_54 ?_
            refine v_istore dX6_act_55 (Nat.le_of_ble_eq_true rfl) ?_
            refine v_aloadn dX6_act_57 rfl ?_
            refine v_aload dX6_act_58 rfl ?_
            refine v_iloadn dX6_act_60 rfl ?_
            refine v_iconst dX6_act_61 ?_
            refine v_callV (tX6_nextAct hX (by omega) (by omega) (by omega)) lc_X6_184 ⟨(Nat.le_of_ble_eq_true rfl), (Nat.le_of_ble_eq_true rfl)⟩ dX6_act_62 rfl rfl (Nat.le_of_ble_eq_true rfl) ⟨(Nat.le_of_ble_eq_true rfl), (Nat.le_of_ble_eq_true rfl)⟩ ⟨_, _, _, _, (hX.2.1 0 0 (by decide)), rfl⟩ (kP fun r62 hr62 hp62 => ?_)
            refine v_istore dX6_act_65 (Nat.le_of_ble_eq_true rfl) ?_
            refine v_iconst dX6_act_67 ?_
            refine v_istore dX6_act_68 (Nat.le_of_ble_eq_true rfl) ?_
            refine wV.locs (lv' := [(0, .ref (fw 0 0)), (1, .int (gI c)), (2, .int (gI a)), (3, .int (gI n)), (4, .int (gI w)), (5, .ref (fw 14 _)), (6, .int (gI (0))), (7, .int (gI (_))), (8, .int (gI (0)))]) ⟨rfl, rfl, rfl, rfl, rfl, rfl, rfl, rfl, rfl, trivial⟩ (tX6_act_loop hX (by omega) (by omega) hn (by omega) 4010 _ _ _ (by omega) (by omega) (by omega) (by omega) (by omega))
          · refine v_bipush dX6_act_51 (by decide) ?_
            exact v_iret dX6_act_53 rfl ⟨(Nat.le_of_ble_eq_true rfl), (Nat.le_of_ble_eq_true rfl)⟩ (by omega) ⟨rfl, trivial⟩
        · refine v_iconst dX6_act_33 ?_
          exact v_iret dX6_act_34 rfl ⟨(Nat.le_of_ble_eq_true rfl), (Nat.le_of_ble_eq_true rfl)⟩ (by omega) ⟨rfl, trivial⟩
set_option maxHeartbeats 4000000 in
set_option maxRecDepth 100000 in
theorem tX6_unlike_loop {sz : Nat} {M0 : wM} {G : gG} {fw : Nat → Nat → Nat} {s : sG} {M : wM} (hX : wX G fw s M) {i : Nat} (hi : i < 4) {c : Int} : ∀ (k : Nat) (d e u : Int), 0 ≤ 4001 - u → 4001 - u < (k : Int) → (bt 0 u 4000) → (e = -4 ∨ bt 1 e 4000) → (d = -4 ∨ bt 1 d 4000) → wV G qX6_unlike 0 0 sz M0 0 0 48 [(0, .ref (fw 0 0)), (1, .int (gI c)), (2, .ref (fw 14 i)), (3, .int (gI d)), (4, .int (gI e)), (5, .int (gI u))] [] M (iP fun x M' => M' = M ∧ True) := by
  intro k
  induction k with
  | zero =>
    intros
    omega
  | succ k ih =>
    intro d e u hmz hml h1 h2 h3
    have h0 := hX.2.2.1
    have hnm := hX.2.2.2.1
    have hsh := hX.2.2.2.2.1
    have h8 := hX.2.2.2.2.2.1
    have hch := hX.2.2.2.2.2.2.2.2.1 i hi
    refine v_iload dX6_unlike_48 rfl ?_
    refine v_sipush dX6_unlike_50 (by decide) ?_
    refine v_icmp_ge 134 dX6_unlike_53 (by decide) (by omega) (by omega) (fun h53 => ?_) (fun h53 => ?_)
    · refine v_bipush dX6_unlike_134 (by decide) ?_
      exact v_iret dX6_unlike_136 rfl ⟨(Nat.le_of_ble_eq_true rfl), (Nat.le_of_ble_eq_true rfl)⟩ (by omega) ⟨rfl, trivial⟩
    · refine v_iloadn dX6_unlike_56 rfl ?_
      refine v_bipush dX6_unlike_57 (by decide) ?_
      refine v_icmp_ne 69 dX6_unlike_59 (by decide) (by omega) (by omega) (fun h59 => ?_) (fun h59 => ?_)
      · refine v_iloadn dX6_unlike_69 rfl ?_
        refine v_bipush dX6_unlike_70 (by decide) ?_
        refine v_icmp_eq 107 dX6_unlike_72 (by decide) (by omega) (by omega) (fun h72 => ?_) (fun h72 => ?_)
        · refine v_iload dX6_unlike_107 rfl ?_
          exact v_iret dX6_unlike_109 rfl ⟨(Nat.le_of_ble_eq_true rfl), (Nat.le_of_ble_eq_true rfl)⟩ (by omega) ⟨rfl, trivial⟩
        · refine v_iload dX6_unlike_75 rfl ?_
          refine v_bipush dX6_unlike_77 (by decide) ?_
          refine v_icmp_eq 107 dX6_unlike_79 (by decide) (by omega) (by omega) (fun h79 => ?_) (fun h79 => ?_)
          · refine v_iload dX6_unlike_107 rfl ?_
            exact v_iret dX6_unlike_109 rfl ⟨(Nat.le_of_ble_eq_true rfl), (Nat.le_of_ble_eq_true rfl)⟩ (by omega) ⟨rfl, trivial⟩
          · refine v_aloadn dX6_unlike_82 rfl ?_
            refine v_aloadn dX6_unlike_83 rfl ?_
            refine v_iconst dX6_unlike_84 ?_
            refine v_iloadn dX6_unlike_85 rfl ?_
            refine v_callV (tX6_dataAhead hX hi (by omega) (by omega)) lc_X6_188 ⟨(Nat.le_of_ble_eq_true rfl), (Nat.le_of_ble_eq_true rfl)⟩ dX6_unlike_86 rfl rfl (Nat.le_of_ble_eq_true rfl) ⟨(Nat.le_of_ble_eq_true rfl), (Nat.le_of_ble_eq_true rfl)⟩ ⟨_, _, _, _, (hX.2.1 0 0 (by decide)), rfl⟩ (kP fun r86 hr86 hp86 => ?_)
            refine v_aloadn dX6_unlike_89 rfl ?_
            refine v_aloadn dX6_unlike_90 rfl ?_
            refine v_iconst dX6_unlike_91 ?_
            refine v_iload dX6_unlike_92 rfl ?_
            refine v_callV (tX6_dataAhead hX hi (by omega) (by omega)) lc_X6_188 ⟨(Nat.le_of_ble_eq_true rfl), (Nat.le_of_ble_eq_true rfl)⟩ dX6_unlike_94 rfl rfl (Nat.le_of_ble_eq_true rfl) ⟨(Nat.le_of_ble_eq_true rfl), (Nat.le_of_ble_eq_true rfl)⟩ ⟨_, _, _, _, (hX.2.1 0 0 (by decide)), rfl⟩ (kP fun r94 hr94 hp94 => ?_)
            refine v_aloadn dX6_unlike_97 rfl ?_
            refine v_get dX6_unlike_98 gf_X6_57 (hX.2.1 0 0 (by decide)) rfl ?_
            refine v_callS (tX6_agree (by omega) (by omega) (by omega)) lc_X6_191 ⟨(Nat.le_of_ble_eq_true rfl), (Nat.le_of_ble_eq_true rfl)⟩ dX6_unlike_101 rfl rfl (Nat.le_of_ble_eq_true rfl) ⟨(Nat.le_of_ble_eq_true rfl), (Nat.le_of_ble_eq_true rfl)⟩ (kP fun r101 hr101 hp101 => ?_)
            refine v_if_ne 110 dX6_unlike_104 (by decide) (by omega) (fun h104 => ?_) (fun h104 => ?_)
            · refine v_aloadn dX6_unlike_110 rfl ?_
              refine v_aloadn dX6_unlike_111 rfl ?_
              refine v_iconst dX6_unlike_112 ?_
              refine v_iloadn dX6_unlike_113 rfl ?_
              refine v_callV (tX6_nextAct hX hi (by omega) (by omega)) lc_X6_184 ⟨(Nat.le_of_ble_eq_true rfl), (Nat.le_of_ble_eq_true rfl)⟩ dX6_unlike_114 rfl rfl (Nat.le_of_ble_eq_true rfl) ⟨(Nat.le_of_ble_eq_true rfl), (Nat.le_of_ble_eq_true rfl)⟩ ⟨_, _, _, _, (hX.2.1 0 0 (by decide)), rfl⟩ (kP fun r114 hr114 hp114 => ?_)
              refine v_istoren dX6_unlike_117 (Nat.le_of_ble_eq_true rfl) ?_
              refine v_aloadn dX6_unlike_118 rfl ?_
              refine v_aloadn dX6_unlike_119 rfl ?_
              refine v_iconst dX6_unlike_120 ?_
              refine v_iload dX6_unlike_121 rfl ?_
              refine v_callV (tX6_nextAct hX hi (by omega) (by omega)) lc_X6_184 ⟨(Nat.le_of_ble_eq_true rfl), (Nat.le_of_ble_eq_true rfl)⟩ dX6_unlike_123 rfl rfl (Nat.le_of_ble_eq_true rfl) ⟨(Nat.le_of_ble_eq_true rfl), (Nat.le_of_ble_eq_true rfl)⟩ ⟨_, _, _, _, (hX.2.1 0 0 (by decide)), rfl⟩ (kP fun r123 hr123 hp123 => ?_)
              refine v_istore dX6_unlike_126 (Nat.le_of_ble_eq_true rfl) ?_
              refine v_iinc dX6_unlike_128 rfl (Nat.le_of_ble_eq_true rfl) ?_
              refine v_goto 48 dX6_unlike_131 (by decide) ?_
              refine wV.locs (lv' := [(0, .ref (fw 0 0)), (1, .int (gI c)), (2, .ref (fw 14 i)), (3, .int (gI _)), (4, .int (gI _)), (5, .int (gI _))]) ⟨rfl, rfl, rfl, rfl, rfl, rfl, trivial⟩ (ih _ _ _ (by omega) (by omega) (by omega) (by omega) (by omega))
            · refine v_iload dX6_unlike_107 rfl ?_
              exact v_iret dX6_unlike_109 rfl ⟨(Nat.le_of_ble_eq_true rfl), (Nat.le_of_ble_eq_true rfl)⟩ (by omega) ⟨rfl, trivial⟩
      · refine v_iload dX6_unlike_62 rfl ?_
        refine v_bipush dX6_unlike_64 (by decide) ?_
        refine v_icmp_eq 134 dX6_unlike_66 (by decide) (by omega) (by omega) (fun h66 => ?_) (fun h66 => ?_)
        · refine v_bipush dX6_unlike_134 (by decide) ?_
          exact v_iret dX6_unlike_136 rfl ⟨(Nat.le_of_ble_eq_true rfl), (Nat.le_of_ble_eq_true rfl)⟩ (by omega) ⟨rfl, trivial⟩
        · refine v_iloadn dX6_unlike_69 rfl ?_
          refine v_bipush dX6_unlike_70 (by decide) ?_
          refine v_icmp_eq 107 dX6_unlike_72 (by decide) (by omega) (by omega) (fun h72 => ?_) (fun h72 => ?_)
          · refine v_iload dX6_unlike_107 rfl ?_
            exact v_iret dX6_unlike_109 rfl ⟨(Nat.le_of_ble_eq_true rfl), (Nat.le_of_ble_eq_true rfl)⟩ (by omega) ⟨rfl, trivial⟩
          · refine v_iload dX6_unlike_75 rfl ?_
            refine v_bipush dX6_unlike_77 (by decide) ?_
            refine v_icmp_eq 107 dX6_unlike_79 (by decide) (by omega) (by omega) (fun h79 => ?_) (fun h79 => ?_)
            · refine v_iload dX6_unlike_107 rfl ?_
              exact v_iret dX6_unlike_109 rfl ⟨(Nat.le_of_ble_eq_true rfl), (Nat.le_of_ble_eq_true rfl)⟩ (by omega) ⟨rfl, trivial⟩
            · refine v_aloadn dX6_unlike_82 rfl ?_
              refine v_aloadn dX6_unlike_83 rfl ?_
              refine v_iconst dX6_unlike_84 ?_
              refine v_iloadn dX6_unlike_85 rfl ?_
              refine v_callV (tX6_dataAhead hX hi (by omega) (by omega)) lc_X6_188 ⟨(Nat.le_of_ble_eq_true rfl), (Nat.le_of_ble_eq_true rfl)⟩ dX6_unlike_86 rfl rfl (Nat.le_of_ble_eq_true rfl) ⟨(Nat.le_of_ble_eq_true rfl), (Nat.le_of_ble_eq_true rfl)⟩ ⟨_, _, _, _, (hX.2.1 0 0 (by decide)), rfl⟩ (kP fun r86 hr86 hp86 => ?_)
              refine v_aloadn dX6_unlike_89 rfl ?_
              refine v_aloadn dX6_unlike_90 rfl ?_
              refine v_iconst dX6_unlike_91 ?_
              refine v_iload dX6_unlike_92 rfl ?_
              refine v_callV (tX6_dataAhead hX hi (by omega) (by omega)) lc_X6_188 ⟨(Nat.le_of_ble_eq_true rfl), (Nat.le_of_ble_eq_true rfl)⟩ dX6_unlike_94 rfl rfl (Nat.le_of_ble_eq_true rfl) ⟨(Nat.le_of_ble_eq_true rfl), (Nat.le_of_ble_eq_true rfl)⟩ ⟨_, _, _, _, (hX.2.1 0 0 (by decide)), rfl⟩ (kP fun r94 hr94 hp94 => ?_)
              refine v_aloadn dX6_unlike_97 rfl ?_
              refine v_get dX6_unlike_98 gf_X6_57 (hX.2.1 0 0 (by decide)) rfl ?_
              refine v_callS (tX6_agree (by omega) (by omega) (by omega)) lc_X6_191 ⟨(Nat.le_of_ble_eq_true rfl), (Nat.le_of_ble_eq_true rfl)⟩ dX6_unlike_101 rfl rfl (Nat.le_of_ble_eq_true rfl) ⟨(Nat.le_of_ble_eq_true rfl), (Nat.le_of_ble_eq_true rfl)⟩ (kP fun r101 hr101 hp101 => ?_)
              refine v_if_ne 110 dX6_unlike_104 (by decide) (by omega) (fun h104 => ?_) (fun h104 => ?_)
              · refine v_aloadn dX6_unlike_110 rfl ?_
                refine v_aloadn dX6_unlike_111 rfl ?_
                refine v_iconst dX6_unlike_112 ?_
                refine v_iloadn dX6_unlike_113 rfl ?_
                refine v_callV (tX6_nextAct hX hi (by omega) (by omega)) lc_X6_184 ⟨(Nat.le_of_ble_eq_true rfl), (Nat.le_of_ble_eq_true rfl)⟩ dX6_unlike_114 rfl rfl (Nat.le_of_ble_eq_true rfl) ⟨(Nat.le_of_ble_eq_true rfl), (Nat.le_of_ble_eq_true rfl)⟩ ⟨_, _, _, _, (hX.2.1 0 0 (by decide)), rfl⟩ (kP fun r114 hr114 hp114 => ?_)
                refine v_istoren dX6_unlike_117 (Nat.le_of_ble_eq_true rfl) ?_
                refine v_aloadn dX6_unlike_118 rfl ?_
                refine v_aloadn dX6_unlike_119 rfl ?_
                refine v_iconst dX6_unlike_120 ?_
                refine v_iload dX6_unlike_121 rfl ?_
                refine v_callV (tX6_nextAct hX hi (by omega) (by omega)) lc_X6_184 ⟨(Nat.le_of_ble_eq_true rfl), (Nat.le_of_ble_eq_true rfl)⟩ dX6_unlike_123 rfl rfl (Nat.le_of_ble_eq_true rfl) ⟨(Nat.le_of_ble_eq_true rfl), (Nat.le_of_ble_eq_true rfl)⟩ ⟨_, _, _, _, (hX.2.1 0 0 (by decide)), rfl⟩ (kP fun r123 hr123 hp123 => ?_)
                refine v_istore dX6_unlike_126 (Nat.le_of_ble_eq_true rfl) ?_
                refine v_iinc dX6_unlike_128 rfl (Nat.le_of_ble_eq_true rfl) ?_
                refine v_goto 48 dX6_unlike_131 (by decide) ?_
                refine wV.locs (lv' := [(0, .ref (fw 0 0)), (1, .int (gI c)), (2, .ref (fw 14 i)), (3, .int (gI _)), (4, .int (gI _)), (5, .int (gI _))]) ⟨rfl, rfl, rfl, rfl, rfl, rfl, trivial⟩ (ih _ _ _ (by omega) (by omega) (by omega) (by omega) (by omega))
              · refine v_iload dX6_unlike_107 rfl ?_
                exact v_iret dX6_unlike_109 rfl ⟨(Nat.le_of_ble_eq_true rfl), (Nat.le_of_ble_eq_true rfl)⟩ (by omega) ⟨rfl, trivial⟩
set_option maxHeartbeats 4000000 in
set_option maxRecDepth 100000 in
theorem tX6_unlike {G : gG} {fw : Nat → Nat → Nat} {s : sG} {M : wM} (hX : wX G fw s M) {c : Int} (hc : rng c) : wT G qX6_unlike 0 0 [.ref (fw 0 0), .int (gI c)] M (iP fun x M' => M' = M ∧ True) := by
  refine wT.intro (by decide) (Nat.le_of_ble_eq_true rfl) (fun sz => ?_)
  have h0 := hX.2.2.1
  have hnm := hX.2.2.2.1
  have hsh := hX.2.2.2.2.1
  have h8 := hX.2.2.2.2.2.1
  refine v_iloadn dX6_unlike_0 rfl ?_
  refine v_iconst dX6_unlike_1 ?_
  refine v_iconst dX6_unlike_2 ?_
  refine v_callS (tX6_outside (by omega) (by omega) (by omega)) lc_X6_69 ⟨(Nat.le_of_ble_eq_true rfl), (Nat.le_of_ble_eq_true rfl)⟩ dX6_unlike_3 rfl rfl (Nat.le_of_ble_eq_true rfl) ⟨(Nat.le_of_ble_eq_true rfl), (Nat.le_of_ble_eq_true rfl)⟩ (kP fun r3 hr3 hp3 => ?_)
  refine v_if_eq 11 dX6_unlike_6 (by decide) (by omega) (fun h6 => ?_) (fun h6 => ?_)
  · refine v_aloadn dX6_unlike_11 rfl ?_
    refine v_get dX6_unlike_12 gf_X6_33 (hX.2.1 0 0 (by decide)) rfl ?_
    refine v_iloadn dX6_unlike_15 rfl ?_
    refine v_aald (cA := G.2.2 0) (Cn := "WavePairs$Channel") dX6_unlike_16 (hX.2.1 6 0 (by decide)) (by simp) (by omega) (by omega) (by decide) ?_
    have hch := hX.2.2.2.2.2.2.2.2.1 c.toNat (by omega)
    refine v_astoren dX6_unlike_17 (Nat.le_of_ble_eq_true rfl) ?_
    refine v_aloadn dX6_unlike_18 rfl ?_
    refine v_getN dX6_unlike_19 gf_X6_181 (hX.2.1 14 _ (by simp [cntX]; omega)) rfl ?_
    refine v_if_ne 28 dX6_unlike_22 (by decide) (by omega) (fun h22 => ?_) (fun h22 => ?_)
    · refine v_aloadn dX6_unlike_28 rfl ?_
      refine v_aloadn dX6_unlike_29 rfl ?_
      refine v_iconst dX6_unlike_30 ?_
      refine v_iconst dX6_unlike_31 ?_
      refine v_callV (tX6_nextAct hX (by omega) (by omega) (by omega)) lc_X6_184 ⟨(Nat.le_of_ble_eq_true rfl), (Nat.le_of_ble_eq_true rfl)⟩ dX6_unlike_32 rfl rfl (Nat.le_of_ble_eq_true rfl) ⟨(Nat.le_of_ble_eq_true rfl), (Nat.le_of_ble_eq_true rfl)⟩ ⟨_, _, _, _, (hX.2.1 0 0 (by decide)), rfl⟩ (kP fun r32 hr32 hp32 => ?_)
      refine v_istoren dX6_unlike_35 (Nat.le_of_ble_eq_true rfl) ?_
      refine v_aloadn dX6_unlike_36 rfl ?_
      refine v_aloadn dX6_unlike_37 rfl ?_
      refine v_iconst dX6_unlike_38 ?_
      refine v_iconst dX6_unlike_39 ?_
      refine v_callV (tX6_nextAct hX (by omega) (by omega) (by omega)) lc_X6_184 ⟨(Nat.le_of_ble_eq_true rfl), (Nat.le_of_ble_eq_true rfl)⟩ dX6_unlike_40 rfl rfl (Nat.le_of_ble_eq_true rfl) ⟨(Nat.le_of_ble_eq_true rfl), (Nat.le_of_ble_eq_true rfl)⟩ ⟨_, _, _, _, (hX.2.1 0 0 (by decide)), rfl⟩ (kP fun r40 hr40 hp40 => ?_)
      refine v_istore dX6_unlike_43 (Nat.le_of_ble_eq_true rfl) ?_
      refine v_iconst dX6_unlike_45 ?_
      refine v_istore dX6_unlike_46 (Nat.le_of_ble_eq_true rfl) ?_
      refine wV.locs (lv' := [(0, .ref (fw 0 0)), (1, .int (gI c)), (2, .ref (fw 14 _)), (3, .int (gI (_))), (4, .int (gI (_))), (5, .int (gI (0)))]) ⟨rfl, rfl, rfl, rfl, rfl, rfl, trivial⟩ (tX6_unlike_loop hX (by omega) 4010 _ _ _ (by omega) (by omega) (by omega) (by omega) (by omega))
    · refine v_bipush dX6_unlike_25 (by decide) ?_
      exact v_iret dX6_unlike_27 rfl ⟨(Nat.le_of_ble_eq_true rfl), (Nat.le_of_ble_eq_true rfl)⟩ (by omega) ⟨rfl, trivial⟩
  · refine v_iconst dX6_unlike_9 ?_
    exact v_iret dX6_unlike_10 rfl ⟨(Nat.le_of_ble_eq_true rfl), (Nat.le_of_ble_eq_true rfl)⟩ (by omega) ⟨rfl, trivial⟩
end
section
set_option maxHeartbeats 4000000 in
set_option maxRecDepth 100000 in
theorem tX6_agreeAt {G : gG} {fw : Nat → Nat → Nat} {s : sG} {M : wM} (hX : wX G fw s M) {a t : Int} (ha : bt 0 a 11) (ht : bt (-10) t 4000) : wT G qX6_agreeAt 0 0 [.ref (fw 0 0), .int (gI a), .int (gI t)] M (iP fun x M' => M' = M ∧ (x = 0 ∨ x = 1)) := by
  refine wT.intro (by decide) (Nat.le_of_ble_eq_true rfl) (fun sz => ?_)
  have h0 := hX.2.2.1
  have hnm := hX.2.2.2.1
  have hsh := hX.2.2.2.2.1
  have h8 := hX.2.2.2.2.2.1
  refine v_aloadn dX6_agreeAt_0 rfl ?_
  refine v_iconst dX6_agreeAt_1 ?_
  refine v_iloadn dX6_agreeAt_2 rfl ?_
  refine v_callV (tX6_rowOf hX (by omega) ha) lc_X6_77 ⟨(Nat.le_of_ble_eq_true rfl), (Nat.le_of_ble_eq_true rfl)⟩ dX6_agreeAt_3 rfl rfl (Nat.le_of_ble_eq_true rfl) ⟨(Nat.le_of_ble_eq_true rfl), (Nat.le_of_ble_eq_true rfl)⟩ ⟨_, _, _, _, (hX.2.1 0 0 (by decide)), rfl⟩ (kRp fun r3 hp3 => ?_)
  subst hp3
  refine v_iloadn dX6_agreeAt_6 rfl ?_
  refine v_callV (tX4_valueAt (hX.row (by omega)) (by omega)) lc_X6_110 ⟨(Nat.le_of_ble_eq_true rfl), (Nat.le_of_ble_eq_true rfl)⟩ dX6_agreeAt_7 rfl rfl (Nat.le_of_ble_eq_true rfl) ⟨(Nat.le_of_ble_eq_true rfl), (Nat.le_of_ble_eq_true rfl)⟩ ⟨_, _, _, _, (hX.row (by omega)).1, rfl⟩ (kP fun r7 hr7 hp7 => ?_)
  refine v_aloadn dX6_agreeAt_10 rfl ?_
  refine v_iconst dX6_agreeAt_11 ?_
  refine v_iloadn dX6_agreeAt_12 rfl ?_
  refine v_callV (tX6_namedRow hX (by omega) ha) lc_X6_154 ⟨(Nat.le_of_ble_eq_true rfl), (Nat.le_of_ble_eq_true rfl)⟩ dX6_agreeAt_13 rfl rfl (Nat.le_of_ble_eq_true rfl) ⟨(Nat.le_of_ble_eq_true rfl), (Nat.le_of_ble_eq_true rfl)⟩ ⟨_, _, _, _, (hX.2.1 0 0 (by decide)), rfl⟩ (kRp fun r13 hp13 => ?_)
  subst hp13
  refine v_iloadn dX6_agreeAt_16 rfl ?_
  refine v_callV (tX4_valueAt (hX.row (nmd_lt hX.2.2 (by omega) (by omega))) (by omega)) lc_X6_110 ⟨(Nat.le_of_ble_eq_true rfl), (Nat.le_of_ble_eq_true rfl)⟩ dX6_agreeAt_17 rfl rfl (Nat.le_of_ble_eq_true rfl) ⟨(Nat.le_of_ble_eq_true rfl), (Nat.le_of_ble_eq_true rfl)⟩ ⟨_, _, _, _, (hX.row (nmd_lt hX.2.2 (by omega) (by omega))).1, rfl⟩ (kP fun r17 hr17 hp17 => ?_)
  refine v_aloadn dX6_agreeAt_20 rfl ?_
  refine v_get dX6_agreeAt_21 gf_X6_57 (hX.2.1 0 0 (by decide)) rfl ?_
  refine v_callS (tX6_agree hr7 hr17 (by omega)) lc_X6_191 ⟨(Nat.le_of_ble_eq_true rfl), (Nat.le_of_ble_eq_true rfl)⟩ dX6_agreeAt_24 rfl rfl (Nat.le_of_ble_eq_true rfl) ⟨(Nat.le_of_ble_eq_true rfl), (Nat.le_of_ble_eq_true rfl)⟩ (kP fun r24 hr24 hp24 => ?_)
  exact v_zret dX6_agreeAt_27 rfl ⟨(Nat.le_of_ble_eq_true rfl), (Nat.le_of_ble_eq_true rfl)⟩ (hp24.2) ⟨rfl, hp24.2⟩
set_option maxHeartbeats 4000000 in
set_option maxRecDepth 100000 in
theorem tX6_storedAgree {G : gG} {fw : Nat → Nat → Nat} {s : sG} {M : wM} (hX : wX G fw s M) {i : Nat} (hi : i < 12) {t : Int} (ht : bt (-10) t 4000) : wT G qX6_storedAgree 0 0 [.ref (fw 0 0), .ref (fw 15 i), .int (gI t)] M (iP fun x M' => M' = M ∧ (x = 0 ∨ x = 1)) := by
  refine wT.intro (by decide) (Nat.le_of_ble_eq_true rfl) (fun sz => ?_)
  have h0 := hX.2.2.1
  have hnm := hX.2.2.2.1
  have hsh := hX.2.2.2.2.1
  have h8 := hX.2.2.2.2.2.1
  have hg := hX.2.2.2.2.2.2.2.2.2.1 i hi
  refine v_aloadn dX6_storedAgree_0 rfl ?_
  refine v_iconst dX6_storedAgree_1 ?_
  refine v_aloadn dX6_storedAgree_2 rfl ?_
  refine v_getN dX6_storedAgree_3 gf_X6_245 (hX.2.1 15 i hi) rfl ?_
  refine v_callV (tX6_namedRow hX (by omega) (by omega)) lc_X6_154 ⟨(Nat.le_of_ble_eq_true rfl), (Nat.le_of_ble_eq_true rfl)⟩ dX6_storedAgree_6 rfl rfl (Nat.le_of_ble_eq_true rfl) ⟨(Nat.le_of_ble_eq_true rfl), (Nat.le_of_ble_eq_true rfl)⟩ ⟨_, _, _, _, (hX.2.1 0 0 (by decide)), rfl⟩ (kRp fun r6 hp6 => ?_)
  subst hp6
  refine v_iloadn dX6_storedAgree_9 rfl ?_
  refine v_callV (tX4_latestEdge (hX.row (nmd_lt hX.2.2 (by omega) (by omega))) (by omega)) lc_X6_248 ⟨(Nat.le_of_ble_eq_true rfl), (Nat.le_of_ble_eq_true rfl)⟩ dX6_storedAgree_10 rfl rfl (Nat.le_of_ble_eq_true rfl) ⟨(Nat.le_of_ble_eq_true rfl), (Nat.le_of_ble_eq_true rfl)⟩ ⟨_, _, _, _, (hX.row (nmd_lt hX.2.2 (by omega) (by omega))).1, rfl⟩ (kP fun r10 hr10 hp10 => ?_)
  refine v_istoren dX6_storedAgree_13 (Nat.le_of_ble_eq_true rfl) ?_
  refine v_iloadn dX6_storedAgree_14 rfl ?_
  refine v_bipush dX6_storedAgree_15 (by decide) ?_
  refine v_icmp_eq 55 dX6_storedAgree_17 (by decide) (by omega) (by omega) (fun h17 => ?_) (fun h17 => ?_)
  · refine v_iconst dX6_storedAgree_55 ?_
    exact v_zret dX6_storedAgree_56 rfl ⟨(Nat.le_of_ble_eq_true rfl), (Nat.le_of_ble_eq_true rfl)⟩ (by omega) ⟨rfl, by omega⟩
  · refine v_iloadn dX6_storedAgree_20 rfl ?_
    refine v_aloadn dX6_storedAgree_21 rfl ?_
    refine v_iconst dX6_storedAgree_22 ?_
    refine v_aloadn dX6_storedAgree_23 rfl ?_
    refine v_getN dX6_storedAgree_24 gf_X6_245 (hX.2.1 15 i hi) rfl ?_
    refine v_callV (tX6_namedRow hX (by omega) (by omega)) lc_X6_154 ⟨(Nat.le_of_ble_eq_true rfl), (Nat.le_of_ble_eq_true rfl)⟩ dX6_storedAgree_27 rfl rfl (Nat.le_of_ble_eq_true rfl) ⟨(Nat.le_of_ble_eq_true rfl), (Nat.le_of_ble_eq_true rfl)⟩ ⟨_, _, _, _, (hX.2.1 0 0 (by decide)), rfl⟩ (kRp fun r27 hp27 => ?_)
    subst hp27
    refine v_iloadn dX6_storedAgree_30 rfl ?_
    refine v_callV (tX4_latestEdge (hX.row (nmd_lt hX.2.2 (by omega) (by omega))) (by omega)) lc_X6_248 ⟨(Nat.le_of_ble_eq_true rfl), (Nat.le_of_ble_eq_true rfl)⟩ dX6_storedAgree_31 rfl rfl (Nat.le_of_ble_eq_true rfl) ⟨(Nat.le_of_ble_eq_true rfl), (Nat.le_of_ble_eq_true rfl)⟩ ⟨_, _, _, _, (hX.row (nmd_lt hX.2.2 (by omega) (by omega))).1, rfl⟩ (kP fun r31 hr31 hp31 => ?_)
    refine v_icmp_ne 55 dX6_storedAgree_34 (by decide) (by omega) (by omega) (fun h34 => ?_) (fun h34 => ?_)
    · refine v_iconst dX6_storedAgree_55 ?_
      exact v_zret dX6_storedAgree_56 rfl ⟨(Nat.le_of_ble_eq_true rfl), (Nat.le_of_ble_eq_true rfl)⟩ (by omega) ⟨rfl, by omega⟩
    · refine v_aloadn dX6_storedAgree_37 rfl ?_
      refine v_aloadn dX6_storedAgree_38 rfl ?_
      refine v_getN dX6_storedAgree_39 gf_X6_242 (hX.2.1 15 i hi) rfl ?_
      refine v_iloadn dX6_storedAgree_42 rfl ?_
      refine v_iconst dX6_storedAgree_43 ?_
      refine v_isub dX6_storedAgree_44 ?_
      refine v_callV (tX6_agreeAt hX (by omega) (by omega)) lc_X6_232 ⟨(Nat.le_of_ble_eq_true rfl), (Nat.le_of_ble_eq_true rfl)⟩ dX6_storedAgree_45 rfl rfl (Nat.le_of_ble_eq_true rfl) ⟨(Nat.le_of_ble_eq_true rfl), (Nat.le_of_ble_eq_true rfl)⟩ ⟨_, _, _, _, (hX.2.1 0 0 (by decide)), rfl⟩ (kP fun r45 hr45 hp45 => ?_)
      refine v_if_eq 55 dX6_storedAgree_48 (by decide) (by omega) (fun h48 => ?_) (fun h48 => ?_)
      · refine v_iconst dX6_storedAgree_55 ?_
        exact v_zret dX6_storedAgree_56 rfl ⟨(Nat.le_of_ble_eq_true rfl), (Nat.le_of_ble_eq_true rfl)⟩ (by omega) ⟨rfl, by omega⟩
      · refine v_iconst dX6_storedAgree_51 ?_
        refine v_goto 56 dX6_storedAgree_52 (by decide) ?_
        exact v_zret dX6_storedAgree_56 rfl ⟨(Nat.le_of_ble_eq_true rfl), (Nat.le_of_ble_eq_true rfl)⟩ (by omega) ⟨rfl, by omega⟩
set_option maxHeartbeats 4000000 in
set_option maxRecDepth 100000 in
theorem tX6_inputsAgree {G : gG} {fw : Nat → Nat → Nat} {s : sG} {M : wM} (hX : wX G fw s M) {i : Nat} (hi : i < 12) {t : Int} (ht : bt (-10) t 4000) : wT G qX6_inputsAgree 0 0 [.ref (fw 0 0), .ref (fw 15 i), .int (gI t)] M (iP fun x M' => M' = M ∧ (x = 0 ∨ x = 1)) := by
  refine wT.intro (by decide) (Nat.le_of_ble_eq_true rfl) (fun sz => ?_)
  have h0 := hX.2.2.1
  have hnm := hX.2.2.2.1
  have hsh := hX.2.2.2.2.1
  have h8 := hX.2.2.2.2.2.1
  have hg := hX.2.2.2.2.2.2.2.2.2.1 i hi
  refine v_aloadn dX6_inputsAgree_0 rfl ?_
  refine v_getN dX6_inputsAgree_1 gf_X6_227 (hX.2.1 15 i hi) rfl ?_
  refine v_bipush dX6_inputsAgree_4 (by decide) ?_
  refine v_icmp_ne 16 dX6_inputsAgree_6 (by decide) (by omega) (by omega) (fun h6 => ?_) (fun h6 => ?_)
  · refine v_aloadn dX6_inputsAgree_16 rfl ?_
    refine v_aloadn dX6_inputsAgree_17 rfl ?_
    refine v_getN dX6_inputsAgree_18 gf_X6_242 (hX.2.1 15 i hi) rfl ?_
    refine v_iloadn dX6_inputsAgree_21 rfl ?_
    refine v_callV (tX6_agreeAt hX (by omega) (by omega)) lc_X6_232 ⟨(Nat.le_of_ble_eq_true rfl), (Nat.le_of_ble_eq_true rfl)⟩ dX6_inputsAgree_22 rfl rfl (Nat.le_of_ble_eq_true rfl) ⟨(Nat.le_of_ble_eq_true rfl), (Nat.le_of_ble_eq_true rfl)⟩ ⟨_, _, _, _, (hX.2.1 0 0 (by decide)), rfl⟩ (kP fun r22 hr22 hp22 => ?_)
    refine v_if_eq 52 dX6_inputsAgree_25 (by decide) (by omega) (fun h25 => ?_) (fun h25 => ?_)
    · refine v_iconst dX6_inputsAgree_52 ?_
      exact v_zret dX6_inputsAgree_53 rfl ⟨(Nat.le_of_ble_eq_true rfl), (Nat.le_of_ble_eq_true rfl)⟩ (by omega) ⟨rfl, by omega⟩
    · refine v_aloadn dX6_inputsAgree_28 rfl ?_
      refine v_getN dX6_inputsAgree_29 gf_X6_227 (hX.2.1 15 i hi) rfl ?_
      refine v_iconst dX6_inputsAgree_32 ?_
      refine v_icmp_eq 48 dX6_inputsAgree_33 (by decide) (by omega) (by omega) (fun h33 => ?_) (fun h33 => ?_)
      · refine v_iconst dX6_inputsAgree_48 ?_
        refine v_goto 53 dX6_inputsAgree_49 (by decide) ?_
        exact v_zret dX6_inputsAgree_53 rfl ⟨(Nat.le_of_ble_eq_true rfl), (Nat.le_of_ble_eq_true rfl)⟩ (by omega) ⟨rfl, by omega⟩
      · refine v_aloadn dX6_inputsAgree_36 rfl ?_
        refine v_aloadn dX6_inputsAgree_37 rfl ?_
        refine v_getN dX6_inputsAgree_38 gf_X6_245 (hX.2.1 15 i hi) rfl ?_
        refine v_iloadn dX6_inputsAgree_41 rfl ?_
        refine v_callV (tX6_agreeAt hX (by omega) (by omega)) lc_X6_232 ⟨(Nat.le_of_ble_eq_true rfl), (Nat.le_of_ble_eq_true rfl)⟩ dX6_inputsAgree_42 rfl rfl (Nat.le_of_ble_eq_true rfl) ⟨(Nat.le_of_ble_eq_true rfl), (Nat.le_of_ble_eq_true rfl)⟩ ⟨_, _, _, _, (hX.2.1 0 0 (by decide)), rfl⟩ (kP fun r42 hr42 hp42 => ?_)
        refine v_if_eq 52 dX6_inputsAgree_45 (by decide) (by omega) (fun h45 => ?_) (fun h45 => ?_)
        · refine v_iconst dX6_inputsAgree_52 ?_
          exact v_zret dX6_inputsAgree_53 rfl ⟨(Nat.le_of_ble_eq_true rfl), (Nat.le_of_ble_eq_true rfl)⟩ (by omega) ⟨rfl, by omega⟩
        · refine v_iconst dX6_inputsAgree_48 ?_
          refine v_goto 53 dX6_inputsAgree_49 (by decide) ?_
          exact v_zret dX6_inputsAgree_53 rfl ⟨(Nat.le_of_ble_eq_true rfl), (Nat.le_of_ble_eq_true rfl)⟩ (by omega) ⟨rfl, by omega⟩
  · refine v_aloadn dX6_inputsAgree_9 rfl ?_
    refine v_aloadn dX6_inputsAgree_10 rfl ?_
    refine v_iloadn dX6_inputsAgree_11 rfl ?_
    refine v_callV (tX6_storedAgree hX hi ht) lc_X6_239 ⟨(Nat.le_of_ble_eq_true rfl), (Nat.le_of_ble_eq_true rfl)⟩ dX6_inputsAgree_12 rfl rfl (Nat.le_of_ble_eq_true rfl) ⟨(Nat.le_of_ble_eq_true rfl), (Nat.le_of_ble_eq_true rfl)⟩ ⟨_, _, _, _, (hX.2.1 0 0 (by decide)), rfl⟩ (kP fun r12 hr12 hp12 => ?_)
    exact v_zret dX6_inputsAgree_15 rfl ⟨(Nat.le_of_ble_eq_true rfl), (Nat.le_of_ble_eq_true rfl)⟩ (by omega) ⟨rfl, by omega⟩
set_option maxHeartbeats 4000000 in
set_option maxRecDepth 100000 in
theorem tX6_guilty_loop {sz : Nat} {M0 : wM} {G : gG} {fw : Nat → Nat → Nat} {s : sG} {M : wM} (hX : wX G fw s M) {t : Int} (ht : bt 0 t 4000) : ∀ (k : Nat) (i : Int), 0 ≤ 13 - i → 13 - i < (k : Int) → (bt 0 i 12) → wV G qX6_guilty 0 0 sz M0 0 0 18 [(0, .ref (fw 0 0)), (1, .int (gI t)), (2, .int (gI i))] [] M (iP fun x M' => M' = M ∧ True) := by
  intro k
  induction k with
  | zero =>
    intros
    omega
  | succ k ih =>
    intro i hmz hml h1
    have h0 := hX.2.2.1
    have hnm := hX.2.2.2.1
    have hsh := hX.2.2.2.2.1
    have h8 := hX.2.2.2.2.2.1
    refine v_iloadn dX6_guilty_18 rfl ?_
    refine v_bipush dX6_guilty_19 (by decide) ?_
    refine v_icmp_ge 64 dX6_guilty_21 (by decide) (by omega) (by omega) (fun h21 => ?_) (fun h21 => ?_)
    · refine v_bipush dX6_guilty_64 (by decide) ?_
      exact v_iret dX6_guilty_66 rfl ⟨(Nat.le_of_ble_eq_true rfl), (Nat.le_of_ble_eq_true rfl)⟩ (by omega) ⟨rfl, trivial⟩
    · refine v_aloadn dX6_guilty_24 rfl ?_
      refine v_get dX6_guilty_25 gf_X6_39 (hX.2.1 0 0 (by decide)) rfl ?_
      refine v_iloadn dX6_guilty_28 rfl ?_
      refine v_aald (cA := G.2.2 0) (Cn := "WavePairs$Gate") dX6_guilty_29 (hX.2.1 7 0 (by decide)) (by simp) (by omega) (by omega) (by decide) ?_
      have hg := hX.2.2.2.2.2.2.2.2.2.1 i.toNat (by omega)
      refine v_astoren dX6_guilty_30 (Nat.le_of_ble_eq_true rfl) ?_
      refine v_aloadn dX6_guilty_31 rfl ?_
      refine v_getN dX6_guilty_32 gf_X6_227 (hX.2.1 15 _ (by simp [cntX]; omega)) rfl ?_
      refine v_if_eq 58 dX6_guilty_35 (by decide) (by omega) (fun h35 => ?_) (fun h35 => ?_)
      · refine v_iinc dX6_guilty_58 rfl (Nat.le_of_ble_eq_true rfl) ?_
        refine v_goto 18 dX6_guilty_61 (by decide) ?_
        refine wV.locs (lv' := [(0, .ref (fw 0 0)), (1, .int (gI t)), (2, .int (gI _))]) ⟨rfl, rfl, rfl, trivial⟩ (ih _ (by omega) (by omega) (by omega))
      · refine v_aloadn dX6_guilty_38 rfl ?_
        refine v_iloadn dX6_guilty_39 rfl ?_
        refine v_iloadn dX6_guilty_40 rfl ?_
        refine v_callV (tX6_agreeAt hX (by omega) (by omega)) lc_X6_232 ⟨(Nat.le_of_ble_eq_true rfl), (Nat.le_of_ble_eq_true rfl)⟩ dX6_guilty_41 rfl rfl (Nat.le_of_ble_eq_true rfl) ⟨(Nat.le_of_ble_eq_true rfl), (Nat.le_of_ble_eq_true rfl)⟩ ⟨_, _, _, _, (hX.2.1 0 0 (by decide)), rfl⟩ (kP fun r41 hr41 hp41 => ?_)
        refine v_if_ne 58 dX6_guilty_44 (by decide) (by omega) (fun h44 => ?_) (fun h44 => ?_)
        · refine v_iinc dX6_guilty_58 rfl (Nat.le_of_ble_eq_true rfl) ?_
          refine v_goto 18 dX6_guilty_61 (by decide) ?_
          refine wV.locs (lv' := [(0, .ref (fw 0 0)), (1, .int (gI t)), (2, .int (gI _))]) ⟨rfl, rfl, rfl, trivial⟩ (ih _ (by omega) (by omega) (by omega))
        · refine v_aloadn dX6_guilty_47 rfl ?_
          refine v_aloadn dX6_guilty_48 rfl ?_
          refine v_iloadn dX6_guilty_49 rfl ?_
          refine v_callV (tX6_inputsAgree hX (by omega) (by omega)) lc_X6_235 ⟨(Nat.le_of_ble_eq_true rfl), (Nat.le_of_ble_eq_true rfl)⟩ dX6_guilty_50 rfl rfl (Nat.le_of_ble_eq_true rfl) ⟨(Nat.le_of_ble_eq_true rfl), (Nat.le_of_ble_eq_true rfl)⟩ ⟨_, _, _, _, (hX.2.1 0 0 (by decide)), rfl⟩ (kP fun r50 hr50 hp50 => ?_)
          refine v_if_eq 58 dX6_guilty_53 (by decide) (by omega) (fun h53 => ?_) (fun h53 => ?_)
          · refine v_iinc dX6_guilty_58 rfl (Nat.le_of_ble_eq_true rfl) ?_
            refine v_goto 18 dX6_guilty_61 (by decide) ?_
            refine wV.locs (lv' := [(0, .ref (fw 0 0)), (1, .int (gI t)), (2, .int (gI _))]) ⟨rfl, rfl, rfl, trivial⟩ (ih _ (by omega) (by omega) (by omega))
          · refine v_iloadn dX6_guilty_56 rfl ?_
            exact v_iret dX6_guilty_57 rfl ⟨(Nat.le_of_ble_eq_true rfl), (Nat.le_of_ble_eq_true rfl)⟩ (by omega) ⟨rfl, trivial⟩
set_option maxHeartbeats 4000000 in
set_option maxRecDepth 100000 in
theorem tX6_guilty {G : gG} {fw : Nat → Nat → Nat} {s : sG} {M : wM} (hX : wX G fw s M) {t : Int} (ht : rng t) : wT G qX6_guilty 0 0 [.ref (fw 0 0), .int (gI t)] M (iP fun x M' => M' = M ∧ True) := by
  refine wT.intro (by decide) (Nat.le_of_ble_eq_true rfl) (fun sz => ?_)
  have h0 := hX.2.2.1
  have hnm := hX.2.2.2.1
  have hsh := hX.2.2.2.2.1
  have h8 := hX.2.2.2.2.2.1
  refine v_iloadn dX6_guilty_0 rfl ?_
  refine v_iconst dX6_guilty_1 ?_
  refine v_aloadn dX6_guilty_2 rfl ?_
  refine v_get dX6_guilty_3 gf_X6_54 (hX.2.1 0 0 (by decide)) rfl ?_
  refine v_iconst dX6_guilty_6 ?_
  refine v_isub dX6_guilty_7 ?_
  refine v_callS (tX6_outside (by omega) (by omega) (by omega)) lc_X6_69 ⟨(Nat.le_of_ble_eq_true rfl), (Nat.le_of_ble_eq_true rfl)⟩ dX6_guilty_8 rfl rfl (Nat.le_of_ble_eq_true rfl) ⟨(Nat.le_of_ble_eq_true rfl), (Nat.le_of_ble_eq_true rfl)⟩ (kP fun r8 hr8 hp8 => ?_)
  refine v_if_eq 16 dX6_guilty_11 (by decide) (by omega) (fun h11 => ?_) (fun h11 => ?_)
  · refine v_iconst dX6_guilty_16 ?_
    refine v_istoren dX6_guilty_17 (Nat.le_of_ble_eq_true rfl) ?_
    refine wV.locs (lv' := [(0, .ref (fw 0 0)), (1, .int (gI t)), (2, .int (gI (0)))]) ⟨rfl, rfl, rfl, trivial⟩ (tX6_guilty_loop hX (by omega) 20 _ (by omega) (by omega) (by omega))
  · refine v_iconst dX6_guilty_14 ?_
    exact v_iret dX6_guilty_15 rfl ⟨(Nat.le_of_ble_eq_true rfl), (Nat.le_of_ble_eq_true rfl)⟩ (by omega) ⟨rfl, trivial⟩
end
section
set_option maxHeartbeats 4000000 in
set_option maxRecDepth 100000 in
theorem tX6_alike_loop {sz : Nat} {M0 : wM} {G : gG} {fw : Nat → Nat → Nat} {si : sG} {Mi : wM} {a : Int} (ha : bt 0 a 11) : ∀ (k : Nat) (s : sG) (M : wM) (b i : Int), 0 ≤ 13 - i → 13 - i < (k : Int) → (wX G fw s M) → (wO cntX fw Mi M) → (keepX si s) → (bt 0 i 12) → wV G qX6_alike 0 0 sz M0 0 0 13 [(0, .ref (fw 0 0)), (1, .int (gI a)), (2, .int (gI b)), (3, .int (gI i))] [] M (PX G fw Mi (fun x s' => keepX si s')) := by
  intro k
  induction k with
  | zero =>
    intros
    omega
  | succ k ih =>
    intro s M b i hmz hml hX hO hK h1
    have h0 := hX.2.2.1
    have hnm := hX.2.2.2.1
    have hsh := hX.2.2.2.2.1
    have h8 := hX.2.2.2.2.2.1
    refine v_iloadn dX6_alike_13 rfl ?_
    refine v_bipush dX6_alike_14 (by decide) ?_
    refine v_icmp_ge 84 dX6_alike_16 (by decide) (by omega) (by omega) (fun h16 => ?_) (fun h16 => ?_)
    · refine v_iloadn dX6_alike_84 rfl ?_
      exact v_iretA dX6_alike_85 rfl ⟨(Nat.le_of_ble_eq_true rfl), (Nat.le_of_ble_eq_true rfl)⟩ ⟨s, hX, hO, hK⟩
    · refine v_aloadn dX6_alike_19 rfl ?_
      refine v_get dX6_alike_20 gf_X6_46 (hX.2.1 0 0 (by decide)) rfl ?_
      refine v_callV (tX5_clear hX) lc_X6_147 ⟨(Nat.le_of_ble_eq_true rfl), (Nat.le_of_ble_eq_true rfl)⟩ dX6_alike_23 rfl rfl (Nat.le_of_ble_eq_true rfl) ⟨(Nat.le_of_ble_eq_true rfl), (Nat.le_of_ble_eq_true rfl)⟩ ⟨_, _, _, _, hX.2.1 8 0 (by decide), rfl⟩ (kV fun M23 hp23 => ?_)
      obtain ⟨s23, hX, hO23, hs23⟩ := hp23
      have hO := hO.tr hO23
      have hK : keepX si s23 := hK.tr (fun k i' hq => by unfold scrX at hq; rw [hs23]; simp only [ups]; rw [if_neg (by omega)])
      have h0 := hX.2.2.1
      have hnm := hX.2.2.2.1
      have hsh := hX.2.2.2.2.1
      have h8 := hX.2.2.2.2.2.1
      refine v_aloadn dX6_alike_26 rfl ?_
      refine v_get dX6_alike_27 gf_X6_46 (hX.2.1 0 0 (by decide)) rfl ?_
      refine v_callV (tX5_take hX) lc_X6_150 ⟨(Nat.le_of_ble_eq_true rfl), (Nat.le_of_ble_eq_true rfl)⟩ dX6_alike_30 rfl rfl (Nat.le_of_ble_eq_true rfl) ⟨(Nat.le_of_ble_eq_true rfl), (Nat.le_of_ble_eq_true rfl)⟩ ⟨_, _, _, _, hX.2.1 8 0 (by decide), rfl⟩ (kR fun r30 M30 hp30 => ?_)
      obtain ⟨s30, j30, hj30, rfl, hX, hO30, -, hs30⟩ := hp30
      have hO := hO.tr hO30
      have hK : keepX si s30 := hK.tr (fun k i' hq => by unfold scrX at hq; rw [hs30]; simp only [ups]; rw [if_neg (by omega)])
      have h0 := hX.2.2.1
      have hnm := hX.2.2.2.1
      have hsh := hX.2.2.2.2.1
      have h8 := hX.2.2.2.2.2.1
      refine v_aloadn dX6_alike_33 rfl ?_
      refine v_iconst dX6_alike_34 ?_
      refine v_iloadn dX6_alike_35 rfl ?_
      refine v_callV (tX6_rowOf hX (by omega) (by omega)) lc_X6_77 ⟨(Nat.le_of_ble_eq_true rfl), (Nat.le_of_ble_eq_true rfl)⟩ dX6_alike_36 rfl rfl (Nat.le_of_ble_eq_true rfl) ⟨(Nat.le_of_ble_eq_true rfl), (Nat.le_of_ble_eq_true rfl)⟩ ⟨_, _, _, _, (hX.2.1 0 0 (by decide)), rfl⟩ (kRp fun r36 hp36 => ?_)
      subst hp36
      refine v_aloadn dX6_alike_39 rfl ?_
      refine v_iconst dX6_alike_40 ?_
      refine v_iloadn dX6_alike_41 rfl ?_
      refine v_callV (tX6_rowOf hX (by omega) (by omega)) lc_X6_77 ⟨(Nat.le_of_ble_eq_true rfl), (Nat.le_of_ble_eq_true rfl)⟩ dX6_alike_42 rfl rfl (Nat.le_of_ble_eq_true rfl) ⟨(Nat.le_of_ble_eq_true rfl), (Nat.le_of_ble_eq_true rfl)⟩ ⟨_, _, _, _, (hX.2.1 0 0 (by decide)), rfl⟩ (kRp fun r42 hp42 => ?_)
      subst hp42
      refine v_iconst dX6_alike_45 ?_
      refine v_aloadn dX6_alike_46 rfl ?_
      refine v_get dX6_alike_47 gf_X6_57 (hX.2.1 0 0 (by decide)) rfl ?_
      refine v_callV (tX3_wantUnlike hX (by omega) (by omega) (by omega) (by omega) (by omega)) lc_X6_157 ⟨(Nat.le_of_ble_eq_true rfl), (Nat.le_of_ble_eq_true rfl)⟩ dX6_alike_50 rfl rfl (Nat.le_of_ble_eq_true rfl) ⟨(Nat.le_of_ble_eq_true rfl), (Nat.le_of_ble_eq_true rfl)⟩ ⟨_, _, _, _, hX.2.1 16 _ (by simp [cntX]; omega), rfl⟩ (kV fun M50 hp50 => ?_)
      obtain ⟨s50, hX, hO50, hs50⟩ := hp50
      have hO := hO.tr hO50
      have hK : keepX si s50 := hK.tr (fun k i' hq => by unfold scrX at hq; rw [hs50]; simp only [ups]; rw [if_neg (by omega), if_neg (by omega), if_neg (by omega), if_neg (by omega), if_neg (by omega)])
      have h0 := hX.2.2.1
      have hnm := hX.2.2.2.1
      have hsh := hX.2.2.2.2.1
      have h8 := hX.2.2.2.2.2.1
      refine v_aloadn dX6_alike_53 rfl ?_
      refine v_get dX6_alike_54 gf_X6_46 (hX.2.1 0 0 (by decide)) rfl ?_
      refine v_iconst dX6_alike_57 ?_
      refine v_aloadn dX6_alike_58 rfl ?_
      refine v_get dX6_alike_59 gf_X6_54 (hX.2.1 0 0 (by decide)) rfl ?_
      refine v_callV (tX5_start hX (by omega) (by omega)) lc_X6_144 ⟨(Nat.le_of_ble_eq_true rfl), (Nat.le_of_ble_eq_true rfl)⟩ dX6_alike_62 rfl rfl (Nat.le_of_ble_eq_true rfl) ⟨(Nat.le_of_ble_eq_true rfl), (Nat.le_of_ble_eq_true rfl)⟩ ⟨_, _, _, _, hX.2.1 8 0 (by decide), rfl⟩ (kP fun r62 hr62 hp62 => ?_)
      refine v_aloadn dX6_alike_65 rfl ?_
      refine v_get dX6_alike_66 gf_X6_54 (hX.2.1 0 0 (by decide)) rfl ?_
      refine v_icmp_lt 78 dX6_alike_69 (by decide) (by omega) (by omega) (fun h69 => ?_) (fun h69 => ?_)
      · refine v_iinc dX6_alike_78 rfl (Nat.le_of_ble_eq_true rfl) ?_
        refine v_goto 13 dX6_alike_81 (by decide) ?_
        refine wV.locs (lv' := [(0, .ref (fw 0 0)), (1, .int (gI a)), (2, .int (gI _)), (3, .int (gI _))]) ⟨rfl, rfl, rfl, rfl, trivial⟩ (ih _ _ _ _ (by omega) (by omega) hX hO hK (by omega))
      · refine v_iloadn dX6_alike_72 rfl ?_
        refine v_iconst dX6_alike_73 ?_
        refine v_iloadn dX6_alike_74 rfl ?_
        refine v_ishl dX6_alike_75 ?_
        refine v_ior dX6_alike_76 ?_
        rw [gI_of (gI b ||| gI 1 <<< (gI i &&& 31))]
        refine v_istoren dX6_alike_77 (Nat.le_of_ble_eq_true rfl) ?_
        refine v_iinc dX6_alike_78 rfl (Nat.le_of_ble_eq_true rfl) ?_
        refine v_goto 13 dX6_alike_81 (by decide) ?_
        refine wV.locs (lv' := [(0, .ref (fw 0 0)), (1, .int (gI a)), (2, .int (gI _)), (3, .int (gI _))]) ⟨rfl, rfl, rfl, rfl, trivial⟩ (ih _ _ _ _ (by omega) (by omega) hX hO hK (by omega))
set_option maxHeartbeats 4000000 in
set_option maxRecDepth 100000 in
theorem tX6_alike {G : gG} {fw : Nat → Nat → Nat} {si : sG} {Mi : wM} (hX : wX G fw si Mi) {a : Int} (ha : rng a) : wT G qX6_alike 0 0 [.ref (fw 0 0), .int (gI a)] Mi (PX G fw Mi (fun x s' => keepX si s')) := by
  refine wT.intro (by decide) (Nat.le_of_ble_eq_true rfl) (fun sz => ?_)
  have hO : wO cntX fw Mi Mi := wO.rf
  have hK : keepX si si := keepX.rf
  refine v_iloadn dX6_alike_0 rfl ?_
  refine v_callS (tX6_isNoSignal (by omega)) lc_X6_117 ⟨(Nat.le_of_ble_eq_true rfl), (Nat.le_of_ble_eq_true rfl)⟩ dX6_alike_1 rfl rfl (Nat.le_of_ble_eq_true rfl) ⟨(Nat.le_of_ble_eq_true rfl), (Nat.le_of_ble_eq_true rfl)⟩ (kP fun r1 hr1 hp1 => ?_)
  refine v_if_eq 9 dX6_alike_4 (by decide) (by omega) (fun h4 => ?_) (fun h4 => ?_)
  · refine v_iconst dX6_alike_9 ?_
    refine v_istoren dX6_alike_10 (Nat.le_of_ble_eq_true rfl) ?_
    refine v_iconst dX6_alike_11 ?_
    refine v_istoren dX6_alike_12 (Nat.le_of_ble_eq_true rfl) ?_
    refine wV.locs (lv' := [(0, .ref (fw 0 0)), (1, .int (gI a)), (2, .int (gI (0))), (3, .int (gI (0)))]) ⟨rfl, rfl, rfl, rfl, trivial⟩ (tX6_alike_loop (by omega) 20 _ _ _ _ (by omega) (by omega) hX hO hK (by omega))
  · refine v_iconst dX6_alike_7 ?_
    exact v_iret dX6_alike_8 rfl ⟨(Nat.le_of_ble_eq_true rfl), (Nat.le_of_ble_eq_true rfl)⟩ (by omega) ⟨si, hX, hO, hK⟩
set_option maxHeartbeats 4000000 in
set_option maxRecDepth 100000 in
theorem tX6_holds {G : gG} {fw : Nat → Nat → Nat} {si : sG} {Mi : wM} (hX : wX G fw si Mi) {a b c d e f g h : Int} (ha : rng a) (hb : rng b) (hc : rng c) (hd : rng d) (he : rng e) (hf : rng f) (hg : rng g) (hh : rng h) : wT G qX6_holds 0 0 [.ref (fw 0 0), .int (gI a), .int (gI b), .int (gI c), .int (gI d), .int (gI e), .int (gI f), .int (gI g), .int (gI h)] Mi (PX G fw Mi (fun x s' => keepX si s')) := by
  refine wT.intro (by decide) (Nat.le_of_ble_eq_true rfl) (fun sz => ?_)
  have hO : wO cntX fw Mi Mi := wO.rf
  have hK : keepX si si := keepX.rf
  refine v_iloadn dX6_holds_0 rfl ?_
  refine v_iloadn dX6_holds_1 rfl ?_
  refine v_callS (tX6_isNoRow (by omega) (by omega)) lc_X6_65 ⟨(Nat.le_of_ble_eq_true rfl), (Nat.le_of_ble_eq_true rfl)⟩ dX6_holds_2 rfl rfl (Nat.le_of_ble_eq_true rfl) ⟨(Nat.le_of_ble_eq_true rfl), (Nat.le_of_ble_eq_true rfl)⟩ (kP fun r2 hr2 hp2 => ?_)
  refine v_if_ne 31 dX6_holds_5 (by decide) (by omega) (fun h5 => ?_) (fun h5 => ?_)
  · refine v_iconst dX6_holds_31 ?_
    exact v_iret dX6_holds_32 rfl ⟨(Nat.le_of_ble_eq_true rfl), (Nat.le_of_ble_eq_true rfl)⟩ (by omega) ⟨_, hX, hO, hK⟩
  · refine v_iloadn dX6_holds_8 rfl ?_
    refine v_callS (tX6_isNoValue (by omega)) lc_X6_73 ⟨(Nat.le_of_ble_eq_true rfl), (Nat.le_of_ble_eq_true rfl)⟩ dX6_holds_9 rfl rfl (Nat.le_of_ble_eq_true rfl) ⟨(Nat.le_of_ble_eq_true rfl), (Nat.le_of_ble_eq_true rfl)⟩ (kP fun r9 hr9 hp9 => ?_)
    refine v_if_ne 31 dX6_holds_12 (by decide) (by omega) (fun h12 => ?_) (fun h12 => ?_)
    · refine v_iconst dX6_holds_31 ?_
      exact v_iret dX6_holds_32 rfl ⟨(Nat.le_of_ble_eq_true rfl), (Nat.le_of_ble_eq_true rfl)⟩ (by omega) ⟨_, hX, hO, hK⟩
    · refine v_iload dX6_holds_15 rfl ?_
      refine v_callS (tX6_isNoSignal (by omega)) lc_X6_117 ⟨(Nat.le_of_ble_eq_true rfl), (Nat.le_of_ble_eq_true rfl)⟩ dX6_holds_17 rfl rfl (Nat.le_of_ble_eq_true rfl) ⟨(Nat.le_of_ble_eq_true rfl), (Nat.le_of_ble_eq_true rfl)⟩ (kP fun r17 hr17 hp17 => ?_)
      refine v_if_ne 31 dX6_holds_20 (by decide) (by omega) (fun h20 => ?_) (fun h20 => ?_)
      · refine v_iconst dX6_holds_31 ?_
        exact v_iret dX6_holds_32 rfl ⟨(Nat.le_of_ble_eq_true rfl), (Nat.le_of_ble_eq_true rfl)⟩ (by omega) ⟨_, hX, hO, hK⟩
      · refine v_iload dX6_holds_23 rfl ?_
        refine v_callS (tX6_isNoValue (by omega)) lc_X6_73 ⟨(Nat.le_of_ble_eq_true rfl), (Nat.le_of_ble_eq_true rfl)⟩ dX6_holds_25 rfl rfl (Nat.le_of_ble_eq_true rfl) ⟨(Nat.le_of_ble_eq_true rfl), (Nat.le_of_ble_eq_true rfl)⟩ (kP fun r25 hr25 hp25 => ?_)
        refine v_if_eq 33 dX6_holds_28 (by decide) (by omega) (fun h28 => ?_) (fun h28 => ?_)
        · refine v_iload dX6_holds_33 rfl ?_
          refine v_iconst dX6_holds_35 ?_
          refine v_sipush dX6_holds_36 (by decide) ?_
          refine v_callS (tX6_outside (by omega) (by omega) (by omega)) lc_X6_69 ⟨(Nat.le_of_ble_eq_true rfl), (Nat.le_of_ble_eq_true rfl)⟩ dX6_holds_39 rfl rfl (Nat.le_of_ble_eq_true rfl) ⟨(Nat.le_of_ble_eq_true rfl), (Nat.le_of_ble_eq_true rfl)⟩ (kP fun r39 hr39 hp39 => ?_)
          refine v_if_ne 61 dX6_holds_42 (by decide) (by omega) (fun h42 => ?_) (fun h42 => ?_)
          · refine v_iconst dX6_holds_61 ?_
            exact v_iret dX6_holds_62 rfl ⟨(Nat.le_of_ble_eq_true rfl), (Nat.le_of_ble_eq_true rfl)⟩ (by omega) ⟨_, hX, hO, hK⟩
          · refine v_iload dX6_holds_45 rfl ?_
            refine v_iconst dX6_holds_47 ?_
            refine v_icmp_lt 61 dX6_holds_48 (by decide) (by omega) (by omega) (fun h48 => ?_) (fun h48 => ?_)
            · refine v_iconst dX6_holds_61 ?_
              exact v_iret dX6_holds_62 rfl ⟨(Nat.le_of_ble_eq_true rfl), (Nat.le_of_ble_eq_true rfl)⟩ (by omega) ⟨_, hX, hO, hK⟩
            · refine v_iload dX6_holds_51 rfl ?_
              refine v_iconst dX6_holds_53 ?_
              refine v_iconst dX6_holds_54 ?_
              refine v_callS (tX6_outside (by omega) (by omega) (by omega)) lc_X6_69 ⟨(Nat.le_of_ble_eq_true rfl), (Nat.le_of_ble_eq_true rfl)⟩ dX6_holds_55 rfl rfl (Nat.le_of_ble_eq_true rfl) ⟨(Nat.le_of_ble_eq_true rfl), (Nat.le_of_ble_eq_true rfl)⟩ (kP fun r55 hr55 hp55 => ?_)
              refine v_if_eq 63 dX6_holds_58 (by decide) (by omega) (fun h58 => ?_) (fun h58 => ?_)
              · refine v_aloadn dX6_holds_63 rfl ?_
                refine v_get dX6_holds_64 gf_X6_46 (hX.2.1 0 0 (by decide)) rfl ?_
                refine v_callV (tX5_clear hX) lc_X6_147 ⟨(Nat.le_of_ble_eq_true rfl), (Nat.le_of_ble_eq_true rfl)⟩ dX6_holds_67 rfl rfl (Nat.le_of_ble_eq_true rfl) ⟨(Nat.le_of_ble_eq_true rfl), (Nat.le_of_ble_eq_true rfl)⟩ ⟨_, _, _, _, hX.2.1 8 0 (by decide), rfl⟩ (kV fun M67 hp67 => ?_)
                obtain ⟨s67, hX, hO67, hs67⟩ := hp67
                have hO := hO.tr hO67
                have hK : keepX si s67 := hK.tr (fun k i' hq => by unfold scrX at hq; rw [hs67]; simp only [ups]; rw [if_neg (by omega)])
                have h0 := hX.2.2.1
                have hnm := hX.2.2.2.1
                have hsh := hX.2.2.2.2.1
                have h8 := hX.2.2.2.2.2.1
                refine v_aloadn dX6_holds_70 rfl ?_
                refine v_get dX6_holds_71 gf_X6_46 (hX.2.1 0 0 (by decide)) rfl ?_
                refine v_callV (tX5_take hX) lc_X6_150 ⟨(Nat.le_of_ble_eq_true rfl), (Nat.le_of_ble_eq_true rfl)⟩ dX6_holds_74 rfl rfl (Nat.le_of_ble_eq_true rfl) ⟨(Nat.le_of_ble_eq_true rfl), (Nat.le_of_ble_eq_true rfl)⟩ ⟨_, _, _, _, hX.2.1 8 0 (by decide), rfl⟩ (kR fun r74 M74 hp74 => ?_)
                obtain ⟨s74, j74, hj74, rfl, hX, hO74, -, hs74⟩ := hp74
                have hO := hO.tr hO74
                have hK : keepX si s74 := hK.tr (fun k i' hq => by unfold scrX at hq; rw [hs74]; simp only [ups]; rw [if_neg (by omega)])
                have h0 := hX.2.2.1
                have hnm := hX.2.2.2.1
                have hsh := hX.2.2.2.2.1
                have h8 := hX.2.2.2.2.2.1
                refine v_aloadn dX6_holds_77 rfl ?_
                refine v_iloadn dX6_holds_78 rfl ?_
                refine v_iloadn dX6_holds_79 rfl ?_
                refine v_callV (tX6_rowOf hX (by omega) (by omega)) lc_X6_77 ⟨(Nat.le_of_ble_eq_true rfl), (Nat.le_of_ble_eq_true rfl)⟩ dX6_holds_80 rfl rfl (Nat.le_of_ble_eq_true rfl) ⟨(Nat.le_of_ble_eq_true rfl), (Nat.le_of_ble_eq_true rfl)⟩ ⟨_, _, _, _, (hX.2.1 0 0 (by decide)), rfl⟩ (kRp fun r80 hp80 => ?_)
                subst hp80
                refine v_iloadn dX6_holds_83 rfl ?_
                refine v_callV (tX3_wantValue hX (by omega) (by omega) (by omega)) lc_X6_251 ⟨(Nat.le_of_ble_eq_true rfl), (Nat.le_of_ble_eq_true rfl)⟩ dX6_holds_84 rfl rfl (Nat.le_of_ble_eq_true rfl) ⟨(Nat.le_of_ble_eq_true rfl), (Nat.le_of_ble_eq_true rfl)⟩ ⟨_, _, _, _, hX.2.1 16 _ (by simp [cntX]; omega), rfl⟩ (kV fun M84 hp84 => ?_)
                obtain ⟨s84, hX, hO84, hK84, -⟩ := hp84
                have hO := hO.tr hO84
                have hK := hK.tr hK84
                have h0 := hX.2.2.1
                have hnm := hX.2.2.2.1
                have hsh := hX.2.2.2.2.1
                have h8 := hX.2.2.2.2.2.1
                refine v_iload dX6_holds_87 rfl ?_
                refine v_iloadn dX6_holds_89 rfl ?_
                refine v_icmp_eq 112 dX6_holds_90 (by decide) (by omega) (by omega) (fun h90 => ?_) (fun h90 => ?_)
                · refine v_iload dX6_holds_112 rfl ?_
                  refine v_iconst dX6_holds_114 ?_
                  refine v_icmp_ne 132 dX6_holds_115 (by decide) (by omega) (by omega) (fun h115 => ?_) (fun h115 => ?_)
                  · refine v_aloadn dX6_holds_132 rfl ?_
                    refine v_get dX6_holds_133 gf_X6_46 (hX.2.1 0 0 (by decide)) rfl ?_
                    refine v_iload dX6_holds_136 rfl ?_
                    refine v_iload dX6_holds_138 rfl ?_
                    refine v_aloadn dX6_holds_140 rfl ?_
                    refine v_get dX6_holds_141 gf_X6_54 (hX.2.1 0 0 (by decide)) rfl ?_
                    refine v_callV (tX5_find hX (by omega) (by omega) (by omega)) lc_X6_135 ⟨(Nat.le_of_ble_eq_true rfl), (Nat.le_of_ble_eq_true rfl)⟩ dX6_holds_144 rfl rfl (Nat.le_of_ble_eq_true rfl) ⟨(Nat.le_of_ble_eq_true rfl), (Nat.le_of_ble_eq_true rfl)⟩ ⟨_, _, _, _, hX.2.1 8 0 (by decide), rfl⟩ (kI fun r144 M144 hr144 hp144 => ?_)
                    obtain ⟨s144, hX, hO144, hE144, e1, e2, e3, e4, e5⟩ := hp144
                    have hO := hO.tr hO144
                    have hK : keepX si s144 := hK.tr (fun k i' hq => by rw [hE144 k (fun z => hq (Or.inl z))])
                    have h0 := hX.2.2.1
                    have hnm := hX.2.2.2.1
                    have hsh := hX.2.2.2.2.1
                    have h8 := hX.2.2.2.2.2.1
                    refine v_if_eq 162 dX6_holds_147 (by decide) (by omega) (fun h147 => ?_) (fun h147 => ?_)
                    · refine v_bipush dX6_holds_162 (by decide) ?_
                      exact v_iret dX6_holds_164 rfl ⟨(Nat.le_of_ble_eq_true rfl), (Nat.le_of_ble_eq_true rfl)⟩ (by omega) ⟨_, hX, hO, hK⟩
                    · refine v_aloadn dX6_holds_150 rfl ?_
                      refine v_get dX6_holds_151 gf_X6_46 (hX.2.1 0 0 (by decide)) rfl ?_
                      refine v_iload dX6_holds_154 rfl ?_
                      refine v_callV (tX5_edgeFound hX (by omega)) lc_X6_138 ⟨(Nat.le_of_ble_eq_true rfl), (Nat.le_of_ble_eq_true rfl)⟩ dX6_holds_156 rfl rfl (Nat.le_of_ble_eq_true rfl) ⟨(Nat.le_of_ble_eq_true rfl), (Nat.le_of_ble_eq_true rfl)⟩ ⟨_, _, _, _, hX.2.1 8 0 (by decide), rfl⟩ (kP fun r156 hr156 hp156 => ?_)
                      refine v_goto 164 dX6_holds_159 (by decide) ?_
                      exact v_iret dX6_holds_164 rfl ⟨(Nat.le_of_ble_eq_true rfl), (Nat.le_of_ble_eq_true rfl)⟩ (by omega) ⟨_, hX, hO, hK⟩
                  · refine v_aloadn dX6_holds_118 rfl ?_
                    refine v_get dX6_holds_119 gf_X6_46 (hX.2.1 0 0 (by decide)) rfl ?_
                    refine v_iload dX6_holds_122 rfl ?_
                    refine v_aloadn dX6_holds_124 rfl ?_
                    refine v_get dX6_holds_125 gf_X6_54 (hX.2.1 0 0 (by decide)) rfl ?_
                    refine v_callV (tX5_howMany hX (by omega) (by omega)) lc_X6_131 ⟨(Nat.le_of_ble_eq_true rfl), (Nat.le_of_ble_eq_true rfl)⟩ dX6_holds_128 rfl rfl (Nat.le_of_ble_eq_true rfl) ⟨(Nat.le_of_ble_eq_true rfl), (Nat.le_of_ble_eq_true rfl)⟩ ⟨_, _, _, _, hX.2.1 8 0 (by decide), rfl⟩ (kI fun r128 M128 hr128 hp128 => ?_)
                    obtain ⟨hb128, hp128⟩ := hp128
                    obtain ⟨s128, hX, hO128, hK128⟩ := hp128
                    have hO := hO.tr hO128
                    have hK := hK.tr hK128
                    have h0 := hX.2.2.1
                    have hnm := hX.2.2.2.1
                    have hsh := hX.2.2.2.2.1
                    have h8 := hX.2.2.2.2.2.1
                    exact v_iret dX6_holds_131 rfl ⟨(Nat.le_of_ble_eq_true rfl), (Nat.le_of_ble_eq_true rfl)⟩ (by omega) ⟨_, hX, hO, hK⟩
                · refine v_aloadn dX6_holds_93 rfl ?_
                  refine v_get dX6_holds_94 gf_X6_46 (hX.2.1 0 0 (by decide)) rfl ?_
                  refine v_callV (tX5_take hX) lc_X6_150 ⟨(Nat.le_of_ble_eq_true rfl), (Nat.le_of_ble_eq_true rfl)⟩ dX6_holds_97 rfl rfl (Nat.le_of_ble_eq_true rfl) ⟨(Nat.le_of_ble_eq_true rfl), (Nat.le_of_ble_eq_true rfl)⟩ ⟨_, _, _, _, hX.2.1 8 0 (by decide), rfl⟩ (kR fun r97 M97 hp97 => ?_)
                  obtain ⟨s97, j97, hj97, rfl, hX, hO97, -, hs97⟩ := hp97
                  have hO := hO.tr hO97
                  have hK : keepX si s97 := hK.tr (fun k i' hq => by unfold scrX at hq; rw [hs97]; simp only [ups]; rw [if_neg (by omega)])
                  have h0 := hX.2.2.1
                  have hnm := hX.2.2.2.1
                  have hsh := hX.2.2.2.2.1
                  have h8 := hX.2.2.2.2.2.1
                  refine v_aloadn dX6_holds_100 rfl ?_
                  refine v_iloadn dX6_holds_101 rfl ?_
                  refine v_iload dX6_holds_102 rfl ?_
                  refine v_callV (tX6_rowOf hX (by omega) (by omega)) lc_X6_77 ⟨(Nat.le_of_ble_eq_true rfl), (Nat.le_of_ble_eq_true rfl)⟩ dX6_holds_104 rfl rfl (Nat.le_of_ble_eq_true rfl) ⟨(Nat.le_of_ble_eq_true rfl), (Nat.le_of_ble_eq_true rfl)⟩ ⟨_, _, _, _, (hX.2.1 0 0 (by decide)), rfl⟩ (kRp fun r104 hp104 => ?_)
                  subst hp104
                  refine v_iload dX6_holds_107 rfl ?_
                  refine v_callV (tX3_wantValueNot hX (by omega) (by omega) (by omega)) lc_X6_173 ⟨(Nat.le_of_ble_eq_true rfl), (Nat.le_of_ble_eq_true rfl)⟩ dX6_holds_109 rfl rfl (Nat.le_of_ble_eq_true rfl) ⟨(Nat.le_of_ble_eq_true rfl), (Nat.le_of_ble_eq_true rfl)⟩ ⟨_, _, _, _, hX.2.1 16 _ (by simp [cntX]; omega), rfl⟩ (kV fun M109 hp109 => ?_)
                  obtain ⟨s109, hX, hO109, hK109, -⟩ := hp109
                  have hO := hO.tr hO109
                  have hK := hK.tr hK109
                  have h0 := hX.2.2.1
                  have hnm := hX.2.2.2.1
                  have hsh := hX.2.2.2.2.1
                  have h8 := hX.2.2.2.2.2.1
                  refine v_iload dX6_holds_112 rfl ?_
                  refine v_iconst dX6_holds_114 ?_
                  refine v_icmp_ne 132 dX6_holds_115 (by decide) (by omega) (by omega) (fun h115 => ?_) (fun h115 => ?_)
                  · refine v_aloadn dX6_holds_132 rfl ?_
                    refine v_get dX6_holds_133 gf_X6_46 (hX.2.1 0 0 (by decide)) rfl ?_
                    refine v_iload dX6_holds_136 rfl ?_
                    refine v_iload dX6_holds_138 rfl ?_
                    refine v_aloadn dX6_holds_140 rfl ?_
                    refine v_get dX6_holds_141 gf_X6_54 (hX.2.1 0 0 (by decide)) rfl ?_
                    refine v_callV (tX5_find hX (by omega) (by omega) (by omega)) lc_X6_135 ⟨(Nat.le_of_ble_eq_true rfl), (Nat.le_of_ble_eq_true rfl)⟩ dX6_holds_144 rfl rfl (Nat.le_of_ble_eq_true rfl) ⟨(Nat.le_of_ble_eq_true rfl), (Nat.le_of_ble_eq_true rfl)⟩ ⟨_, _, _, _, hX.2.1 8 0 (by decide), rfl⟩ (kI fun r144 M144 hr144 hp144 => ?_)
                    obtain ⟨s144, hX, hO144, hE144, e1, e2, e3, e4, e5⟩ := hp144
                    have hO := hO.tr hO144
                    have hK : keepX si s144 := hK.tr (fun k i' hq => by rw [hE144 k (fun z => hq (Or.inl z))])
                    have h0 := hX.2.2.1
                    have hnm := hX.2.2.2.1
                    have hsh := hX.2.2.2.2.1
                    have h8 := hX.2.2.2.2.2.1
                    refine v_if_eq 162 dX6_holds_147 (by decide) (by omega) (fun h147 => ?_) (fun h147 => ?_)
                    · refine v_bipush dX6_holds_162 (by decide) ?_
                      exact v_iret dX6_holds_164 rfl ⟨(Nat.le_of_ble_eq_true rfl), (Nat.le_of_ble_eq_true rfl)⟩ (by omega) ⟨_, hX, hO, hK⟩
                    · refine v_aloadn dX6_holds_150 rfl ?_
                      refine v_get dX6_holds_151 gf_X6_46 (hX.2.1 0 0 (by decide)) rfl ?_
                      refine v_iload dX6_holds_154 rfl ?_
                      refine v_callV (tX5_edgeFound hX (by omega)) lc_X6_138 ⟨(Nat.le_of_ble_eq_true rfl), (Nat.le_of_ble_eq_true rfl)⟩ dX6_holds_156 rfl rfl (Nat.le_of_ble_eq_true rfl) ⟨(Nat.le_of_ble_eq_true rfl), (Nat.le_of_ble_eq_true rfl)⟩ ⟨_, _, _, _, hX.2.1 8 0 (by decide), rfl⟩ (kP fun r156 hr156 hp156 => ?_)
                      refine v_goto 164 dX6_holds_159 (by decide) ?_
                      exact v_iret dX6_holds_164 rfl ⟨(Nat.le_of_ble_eq_true rfl), (Nat.le_of_ble_eq_true rfl)⟩ (by omega) ⟨_, hX, hO, hK⟩
                  · refine v_aloadn dX6_holds_118 rfl ?_
                    refine v_get dX6_holds_119 gf_X6_46 (hX.2.1 0 0 (by decide)) rfl ?_
                    refine v_iload dX6_holds_122 rfl ?_
                    refine v_aloadn dX6_holds_124 rfl ?_
                    refine v_get dX6_holds_125 gf_X6_54 (hX.2.1 0 0 (by decide)) rfl ?_
                    refine v_callV (tX5_howMany hX (by omega) (by omega)) lc_X6_131 ⟨(Nat.le_of_ble_eq_true rfl), (Nat.le_of_ble_eq_true rfl)⟩ dX6_holds_128 rfl rfl (Nat.le_of_ble_eq_true rfl) ⟨(Nat.le_of_ble_eq_true rfl), (Nat.le_of_ble_eq_true rfl)⟩ ⟨_, _, _, _, hX.2.1 8 0 (by decide), rfl⟩ (kI fun r128 M128 hr128 hp128 => ?_)
                    obtain ⟨hb128, hp128⟩ := hp128
                    obtain ⟨s128, hX, hO128, hK128⟩ := hp128
                    have hO := hO.tr hO128
                    have hK := hK.tr hK128
                    have h0 := hX.2.2.1
                    have hnm := hX.2.2.2.1
                    have hsh := hX.2.2.2.2.1
                    have h8 := hX.2.2.2.2.2.1
                    exact v_iret dX6_holds_131 rfl ⟨(Nat.le_of_ble_eq_true rfl), (Nat.le_of_ble_eq_true rfl)⟩ (by omega) ⟨_, hX, hO, hK⟩
              · refine v_iconst dX6_holds_61 ?_
                exact v_iret dX6_holds_62 rfl ⟨(Nat.le_of_ble_eq_true rfl), (Nat.le_of_ble_eq_true rfl)⟩ (by omega) ⟨_, hX, hO, hK⟩
        · refine v_iconst dX6_holds_31 ?_
          exact v_iret dX6_holds_32 rfl ⟨(Nat.le_of_ble_eq_true rfl), (Nat.le_of_ble_eq_true rfl)⟩ (by omega) ⟨_, hX, hO, hK⟩
set_option maxHeartbeats 4000000 in
set_option maxRecDepth 100000 in
theorem tX6_window {G : gG} {fw : Nat → Nat → Nat} {s : sG} {M : wM} (hX : wX G fw s M) {a b c d e : Int} (ha : rng a) (hb : rng b) (hc : rng c) (hd : rng d) (he : rng e) : wT G qX6_window 0 0 [.ref (fw 0 0), .int (gI a), .int (gI b), .int (gI c), .int (gI d), .int (gI e)] M (iP fun x M' => M' = M ∧ True) := by
  refine wT.intro (by decide) (Nat.le_of_ble_eq_true rfl) (fun sz => ?_)
  have h0 := hX.2.2.1
  have hnm := hX.2.2.2.1
  have hsh := hX.2.2.2.2.1
  have h8 := hX.2.2.2.2.2.1
  refine v_iloadn dX6_window_0 rfl ?_
  refine v_iloadn dX6_window_1 rfl ?_
  refine v_callS (tX6_isNoRow (by omega) (by omega)) lc_X6_65 ⟨(Nat.le_of_ble_eq_true rfl), (Nat.le_of_ble_eq_true rfl)⟩ dX6_window_2 rfl rfl (Nat.le_of_ble_eq_true rfl) ⟨(Nat.le_of_ble_eq_true rfl), (Nat.le_of_ble_eq_true rfl)⟩ (kP fun r2 hr2 hp2 => ?_)
  refine v_if_ne 37 dX6_window_5 (by decide) (by omega) (fun h5 => ?_) (fun h5 => ?_)
  · refine v_iconst dX6_window_37 ?_
    exact v_iret dX6_window_38 rfl ⟨(Nat.le_of_ble_eq_true rfl), (Nat.le_of_ble_eq_true rfl)⟩ (by omega) ⟨rfl, trivial⟩
  · refine v_iloadn dX6_window_8 rfl ?_
    refine v_if_lt 37 dX6_window_9 (by decide) (by omega) (fun h9 => ?_) (fun h9 => ?_)
    · refine v_iconst dX6_window_37 ?_
      exact v_iret dX6_window_38 rfl ⟨(Nat.le_of_ble_eq_true rfl), (Nat.le_of_ble_eq_true rfl)⟩ (by omega) ⟨rfl, trivial⟩
    · refine v_iloadn dX6_window_12 rfl ?_
      refine v_iload dX6_window_13 rfl ?_
      refine v_icmp_ge 37 dX6_window_15 (by decide) (by omega) (by omega) (fun h15 => ?_) (fun h15 => ?_)
      · refine v_iconst dX6_window_37 ?_
        exact v_iret dX6_window_38 rfl ⟨(Nat.le_of_ble_eq_true rfl), (Nat.le_of_ble_eq_true rfl)⟩ (by omega) ⟨rfl, trivial⟩
      · refine v_iload dX6_window_18 rfl ?_
        refine v_aloadn dX6_window_20 rfl ?_
        refine v_get dX6_window_21 gf_X6_54 (hX.2.1 0 0 (by decide)) rfl ?_
        refine v_icmp_gt 37 dX6_window_24 (by decide) (by omega) (by omega) (fun h24 => ?_) (fun h24 => ?_)
        · refine v_iconst dX6_window_37 ?_
          exact v_iret dX6_window_38 rfl ⟨(Nat.le_of_ble_eq_true rfl), (Nat.le_of_ble_eq_true rfl)⟩ (by omega) ⟨rfl, trivial⟩
        · refine v_iload dX6_window_27 rfl ?_
          refine v_iconst dX6_window_29 ?_
          refine v_iconst dX6_window_30 ?_
          refine v_callS (tX6_outside (by omega) (by omega) (by omega)) lc_X6_69 ⟨(Nat.le_of_ble_eq_true rfl), (Nat.le_of_ble_eq_true rfl)⟩ dX6_window_31 rfl rfl (Nat.le_of_ble_eq_true rfl) ⟨(Nat.le_of_ble_eq_true rfl), (Nat.le_of_ble_eq_true rfl)⟩ (kP fun r31 hr31 hp31 => ?_)
          refine v_if_eq 39 dX6_window_34 (by decide) (by omega) (fun h34 => ?_) (fun h34 => ?_)
          · refine v_aloadn dX6_window_39 rfl ?_
            refine v_iloadn dX6_window_40 rfl ?_
            refine v_iloadn dX6_window_41 rfl ?_
            refine v_callV (tX6_rowOf hX (by omega) (by omega)) lc_X6_77 ⟨(Nat.le_of_ble_eq_true rfl), (Nat.le_of_ble_eq_true rfl)⟩ dX6_window_42 rfl rfl (Nat.le_of_ble_eq_true rfl) ⟨(Nat.le_of_ble_eq_true rfl), (Nat.le_of_ble_eq_true rfl)⟩ ⟨_, _, _, _, (hX.2.1 0 0 (by decide)), rfl⟩ (kRp fun r42 hp42 => ?_)
            subst hp42
            refine v_astore dX6_window_45 (Nat.le_of_ble_eq_true rfl) ?_
            refine v_iload dX6_window_47 rfl ?_
            refine v_if_ne 61 dX6_window_49 (by decide) (by omega) (fun h49 => ?_) (fun h49 => ?_)
            · refine v_iload dX6_window_61 rfl ?_
              refine v_iconst dX6_window_63 ?_
              refine v_icmp_ne 78 dX6_window_64 (by decide) (by omega) (by omega) (fun h64 => ?_) (fun h64 => ?_)
              · refine v_aload dX6_window_78 rfl ?_
                refine v_iloadn dX6_window_80 rfl ?_
                refine v_iload dX6_window_81 rfl ?_
                refine v_callV (tX4_sumKnown (hX.row (by omega)) (by omega) (by omega)) lc_X6_260 ⟨(Nat.le_of_ble_eq_true rfl), (Nat.le_of_ble_eq_true rfl)⟩ dX6_window_83 rfl rfl (Nat.le_of_ble_eq_true rfl) ⟨(Nat.le_of_ble_eq_true rfl), (Nat.le_of_ble_eq_true rfl)⟩ ⟨_, _, _, _, (hX.row (by omega)).1, rfl⟩ (kP fun r83 hr83 hp83 => ?_)
                exact v_iret dX6_window_86 rfl ⟨(Nat.le_of_ble_eq_true rfl), (Nat.le_of_ble_eq_true rfl)⟩ (by omega) ⟨rfl, trivial⟩
              · refine v_aload dX6_window_67 rfl ?_
                refine v_iloadn dX6_window_69 rfl ?_
                refine v_iload dX6_window_70 rfl ?_
                refine v_callV (tX4_ticksNotKnown (hX.row (by omega)) (by omega) (by omega)) lc_X6_257 ⟨(Nat.le_of_ble_eq_true rfl), (Nat.le_of_ble_eq_true rfl)⟩ dX6_window_72 rfl rfl (Nat.le_of_ble_eq_true rfl) ⟨(Nat.le_of_ble_eq_true rfl), (Nat.le_of_ble_eq_true rfl)⟩ ⟨_, _, _, _, (hX.row (by omega)).1, rfl⟩ (kP fun r72 hr72 hp72 => ?_)
                refine v_goto 86 dX6_window_75 (by decide) ?_
                exact v_iret dX6_window_86 rfl ⟨(Nat.le_of_ble_eq_true rfl), (Nat.le_of_ble_eq_true rfl)⟩ (by omega) ⟨rfl, trivial⟩
            · refine v_aload dX6_window_52 rfl ?_
              refine v_iloadn dX6_window_54 rfl ?_
              refine v_iload dX6_window_55 rfl ?_
              refine v_callV (tX4_turns (hX.row (by omega)) (by omega) (by omega)) lc_X6_254 ⟨(Nat.le_of_ble_eq_true rfl), (Nat.le_of_ble_eq_true rfl)⟩ dX6_window_57 rfl rfl (Nat.le_of_ble_eq_true rfl) ⟨(Nat.le_of_ble_eq_true rfl), (Nat.le_of_ble_eq_true rfl)⟩ ⟨_, _, _, _, (hX.row (by omega)).1, rfl⟩ (kP fun r57 hr57 hp57 => ?_)
              exact v_iret dX6_window_60 rfl ⟨(Nat.le_of_ble_eq_true rfl), (Nat.le_of_ble_eq_true rfl)⟩ (by omega) ⟨rfl, trivial⟩
          · refine v_iconst dX6_window_37 ?_
            exact v_iret dX6_window_38 rfl ⟨(Nat.le_of_ble_eq_true rfl), (Nat.le_of_ble_eq_true rfl)⟩ (by omega) ⟨rfl, trivial⟩
set_option maxHeartbeats 4000000 in
set_option maxRecDepth 100000 in
theorem tX6_countChanges_loop {sz : Nat} {M0 : wM} {G : gG} {fw : Nat → Nat → Nat} {s : sG} {M : wM} (hX : wX G fw s M) : ∀ (k : Nat) (u i : Int), 0 ≤ 25 - i → 25 - i < (k : Int) → (bt 0 i 24) → wV G qX6_countChanges 0 0 sz M0 0 0 13 [(0, .ref (fw 0 0)), (1, .int (gI u)), (2, .ref (fw 1 0)), (3, .int (gI 24)), (4, .int (gI i))] [] M (iP fun x M' => M' = M ∧ True) := by
  intro k
  induction k with
  | zero =>
    intros
    omega
  | succ k ih =>
    intro u i hmz hml h1
    refine v_iload dX6_countChanges_13 rfl ?_
    refine v_iloadn dX6_countChanges_15 rfl ?_
    refine v_icmp_ge 39 dX6_countChanges_16 (by decide) (by omega) (by omega) (fun h16 => ?_) (fun h16 => ?_)
    · refine v_iloadn dX6_countChanges_39 rfl ?_
      exact v_iretA dX6_countChanges_40 rfl ⟨(Nat.le_of_ble_eq_true rfl), (Nat.le_of_ble_eq_true rfl)⟩ ⟨rfl, trivial⟩
    · refine v_aloadn dX6_countChanges_19 rfl ?_
      refine v_iload dX6_countChanges_20 rfl ?_
      refine v_aald (cA := G.2.2 0) (Cn := "WavePairs$Row") dX6_countChanges_22 (hX.2.1 1 0 (by decide)) (by simp) (by omega) (by omega) (by decide) ?_
      refine v_astore dX6_countChanges_23 (Nat.le_of_ble_eq_true rfl) ?_
      refine v_iloadn dX6_countChanges_25 rfl ?_
      refine v_aload dX6_countChanges_26 rfl ?_
      refine v_callV (tX4_size (hX.row (by omega))) lc_X6_92 ⟨(Nat.le_of_ble_eq_true rfl), (Nat.le_of_ble_eq_true rfl)⟩ dX6_countChanges_28 rfl rfl (Nat.le_of_ble_eq_true rfl) ⟨(Nat.le_of_ble_eq_true rfl), (Nat.le_of_ble_eq_true rfl)⟩ ⟨_, _, _, _, (hX.row (by omega)).1, rfl⟩ (kP fun r28 hr28 hp28 => ?_)
      refine v_iadd dX6_countChanges_31 ?_
      refine v_istoren dX6_countChanges_32 (Nat.le_of_ble_eq_true rfl) ?_
      refine v_iinc dX6_countChanges_33 rfl (Nat.le_of_ble_eq_true rfl) ?_
      refine v_goto 13 dX6_countChanges_36 (by decide) ?_
      refine wV.locs (lv' := [(0, .ref (fw 0 0)), (1, .int (gI _)), (2, .ref (fw 1 0)), (3, .int (gI 24)), (4, .int (gI _))]) ⟨rfl, rfl, rfl, rfl, rfl, trivial⟩ (ih _ _ (by omega) (by omega) (by omega))
set_option maxHeartbeats 4000000 in
set_option maxRecDepth 100000 in
theorem tX6_countChanges {G : gG} {fw : Nat → Nat → Nat} {s : sG} {M : wM} (hX : wX G fw s M) : wT G qX6_countChanges 0 0 [.ref (fw 0 0)] M (iP fun x M' => M' = M ∧ True) := by
  refine wT.intro (by decide) (Nat.le_of_ble_eq_true rfl) (fun sz => ?_)
  refine v_iconst dX6_countChanges_0 ?_
  refine v_istoren dX6_countChanges_1 (Nat.le_of_ble_eq_true rfl) ?_
  refine v_aloadn dX6_countChanges_2 rfl ?_
  refine v_get dX6_countChanges_3 gf_X6_11 (hX.2.1 0 0 (by decide)) rfl ?_
  refine v_astoren dX6_countChanges_6 (Nat.le_of_ble_eq_true rfl) ?_
  refine v_aloadn dX6_countChanges_7 rfl ?_
  refine v_alen (ty := .int) dX6_countChanges_8 (hX.2.1 1 0 (by decide)) (by simp) rfl ?_
  refine v_istoren dX6_countChanges_9 (Nat.le_of_ble_eq_true rfl) ?_
  refine v_iconst dX6_countChanges_10 ?_
  refine v_istore dX6_countChanges_11 (Nat.le_of_ble_eq_true rfl) ?_
  refine wV.locs (lv' := [(0, .ref (fw 0 0)), (1, .int (gI (0))), (2, .ref (fw 1 0)), (3, .int (gI 24)), (4, .int (gI (0)))]) ⟨rfl, rfl, rfl, rfl, rfl, trivial⟩ (tX6_countChanges_loop hX 30 _ _ (by omega) (by omega) (by omega))
set_option maxHeartbeats 4000000 in
set_option maxRecDepth 100000 in
theorem tX6_countChannels_loop {sz : Nat} {M0 : wM} {G : gG} {fw : Nat → Nat → Nat} {s : sG} {M : wM} (hX : wX G fw s M) : ∀ (k : Nat) (u i : Int), 0 ≤ 5 - i → 5 - i < (k : Int) → (bt 0 i 4) → wV G qX6_countChannels 0 0 sz M0 0 0 13 [(0, .ref (fw 0 0)), (1, .int (gI u)), (2, .ref (fw 6 0)), (3, .int (gI 4)), (4, .int (gI i))] [] M (iP fun x M' => M' = M ∧ True) := by
  intro k
  induction k with
  | zero =>
    intros
    omega
  | succ k ih =>
    intro u i hmz hml h1
    refine v_iload dX6_countChannels_13 rfl ?_
    refine v_iloadn dX6_countChannels_15 rfl ?_
    refine v_icmp_ge 47 dX6_countChannels_16 (by decide) (by omega) (by omega) (fun h16 => ?_) (fun h16 => ?_)
    · refine v_iloadn dX6_countChannels_47 rfl ?_
      exact v_iretA dX6_countChannels_48 rfl ⟨(Nat.le_of_ble_eq_true rfl), (Nat.le_of_ble_eq_true rfl)⟩ ⟨rfl, trivial⟩
    · refine v_aloadn dX6_countChannels_19 rfl ?_
      refine v_iload dX6_countChannels_20 rfl ?_
      refine v_aald (cA := G.2.2 0) (Cn := "WavePairs$Channel") dX6_countChannels_22 (hX.2.1 6 0 (by decide)) (by simp) (by omega) (by omega) (by decide) ?_
      have hch := hX.2.2.2.2.2.2.2.2.1 i.toNat (by omega)
      refine v_astore dX6_countChannels_23 (Nat.le_of_ble_eq_true rfl) ?_
      refine v_iloadn dX6_countChannels_25 rfl ?_
      refine v_aload dX6_countChannels_26 rfl ?_
      refine v_getN dX6_countChannels_28 gf_X6_181 (hX.2.1 14 _ (by simp [cntX]; omega)) rfl ?_
      refine v_if_eq 38 dX6_countChannels_31 (by decide) (by omega) (fun h31 => ?_) (fun h31 => ?_)
      · refine v_iconst dX6_countChannels_38 ?_
        refine v_iadd dX6_countChannels_39 ?_
        refine v_istoren dX6_countChannels_40 (Nat.le_of_ble_eq_true rfl) ?_
        refine v_iinc dX6_countChannels_41 rfl (Nat.le_of_ble_eq_true rfl) ?_
        refine v_goto 13 dX6_countChannels_44 (by decide) ?_
        refine wV.locs (lv' := [(0, .ref (fw 0 0)), (1, .int (gI _)), (2, .ref (fw 6 0)), (3, .int (gI 4)), (4, .int (gI _))]) ⟨rfl, rfl, rfl, rfl, rfl, trivial⟩ (ih _ _ (by omega) (by omega) (by omega))
      · refine v_iconst dX6_countChannels_34 ?_
        refine v_goto 39 dX6_countChannels_35 (by decide) ?_
        refine v_iadd dX6_countChannels_39 ?_
        refine v_istoren dX6_countChannels_40 (Nat.le_of_ble_eq_true rfl) ?_
        refine v_iinc dX6_countChannels_41 rfl (Nat.le_of_ble_eq_true rfl) ?_
        refine v_goto 13 dX6_countChannels_44 (by decide) ?_
        refine wV.locs (lv' := [(0, .ref (fw 0 0)), (1, .int (gI _)), (2, .ref (fw 6 0)), (3, .int (gI 4)), (4, .int (gI _))]) ⟨rfl, rfl, rfl, rfl, rfl, trivial⟩ (ih _ _ (by omega) (by omega) (by omega))
set_option maxHeartbeats 4000000 in
set_option maxRecDepth 100000 in
theorem tX6_countChannels {G : gG} {fw : Nat → Nat → Nat} {s : sG} {M : wM} (hX : wX G fw s M) : wT G qX6_countChannels 0 0 [.ref (fw 0 0)] M (iP fun x M' => M' = M ∧ True) := by
  refine wT.intro (by decide) (Nat.le_of_ble_eq_true rfl) (fun sz => ?_)
  refine v_iconst dX6_countChannels_0 ?_
  refine v_istoren dX6_countChannels_1 (Nat.le_of_ble_eq_true rfl) ?_
  refine v_aloadn dX6_countChannels_2 rfl ?_
  refine v_get dX6_countChannels_3 gf_X6_33 (hX.2.1 0 0 (by decide)) rfl ?_
  refine v_astoren dX6_countChannels_6 (Nat.le_of_ble_eq_true rfl) ?_
  refine v_aloadn dX6_countChannels_7 rfl ?_
  refine v_alen (ty := .int) dX6_countChannels_8 (hX.2.1 6 0 (by decide)) (by simp) rfl ?_
  refine v_istoren dX6_countChannels_9 (Nat.le_of_ble_eq_true rfl) ?_
  refine v_iconst dX6_countChannels_10 ?_
  refine v_istore dX6_countChannels_11 (Nat.le_of_ble_eq_true rfl) ?_
  refine wV.locs (lv' := [(0, .ref (fw 0 0)), (1, .int (gI (0))), (2, .ref (fw 6 0)), (3, .int (gI 4)), (4, .int (gI (0)))]) ⟨rfl, rfl, rfl, rfl, rfl, trivial⟩ (tX6_countChannels_loop hX 30 _ _ (by omega) (by omega) (by omega))
set_option maxHeartbeats 4000000 in
set_option maxRecDepth 100000 in
theorem tX6_countGates_loop {sz : Nat} {M0 : wM} {G : gG} {fw : Nat → Nat → Nat} {s : sG} {M : wM} (hX : wX G fw s M) : ∀ (k : Nat) (u i : Int), 0 ≤ 13 - i → 13 - i < (k : Int) → (bt 0 i 12) → wV G qX6_countGates 0 0 sz M0 0 0 13 [(0, .ref (fw 0 0)), (1, .int (gI u)), (2, .ref (fw 7 0)), (3, .int (gI 12)), (4, .int (gI i))] [] M (iP fun x M' => M' = M ∧ True) := by
  intro k
  induction k with
  | zero =>
    intros
    omega
  | succ k ih =>
    intro u i hmz hml h1
    refine v_iload dX6_countGates_13 rfl ?_
    refine v_iloadn dX6_countGates_15 rfl ?_
    refine v_icmp_ge 47 dX6_countGates_16 (by decide) (by omega) (by omega) (fun h16 => ?_) (fun h16 => ?_)
    · refine v_iloadn dX6_countGates_47 rfl ?_
      exact v_iretA dX6_countGates_48 rfl ⟨(Nat.le_of_ble_eq_true rfl), (Nat.le_of_ble_eq_true rfl)⟩ ⟨rfl, trivial⟩
    · refine v_aloadn dX6_countGates_19 rfl ?_
      refine v_iload dX6_countGates_20 rfl ?_
      refine v_aald (cA := G.2.2 0) (Cn := "WavePairs$Gate") dX6_countGates_22 (hX.2.1 7 0 (by decide)) (by simp) (by omega) (by omega) (by decide) ?_
      have hg := hX.2.2.2.2.2.2.2.2.2.1 i.toNat (by omega)
      refine v_astore dX6_countGates_23 (Nat.le_of_ble_eq_true rfl) ?_
      refine v_iloadn dX6_countGates_25 rfl ?_
      refine v_aload dX6_countGates_26 rfl ?_
      refine v_getN dX6_countGates_28 gf_X6_227 (hX.2.1 15 _ (by simp [cntX]; omega)) rfl ?_
      refine v_if_eq 38 dX6_countGates_31 (by decide) (by omega) (fun h31 => ?_) (fun h31 => ?_)
      · refine v_iconst dX6_countGates_38 ?_
        refine v_iadd dX6_countGates_39 ?_
        refine v_istoren dX6_countGates_40 (Nat.le_of_ble_eq_true rfl) ?_
        refine v_iinc dX6_countGates_41 rfl (Nat.le_of_ble_eq_true rfl) ?_
        refine v_goto 13 dX6_countGates_44 (by decide) ?_
        refine wV.locs (lv' := [(0, .ref (fw 0 0)), (1, .int (gI _)), (2, .ref (fw 7 0)), (3, .int (gI 12)), (4, .int (gI _))]) ⟨rfl, rfl, rfl, rfl, rfl, trivial⟩ (ih _ _ (by omega) (by omega) (by omega))
      · refine v_iconst dX6_countGates_34 ?_
        refine v_goto 39 dX6_countGates_35 (by decide) ?_
        refine v_iadd dX6_countGates_39 ?_
        refine v_istoren dX6_countGates_40 (Nat.le_of_ble_eq_true rfl) ?_
        refine v_iinc dX6_countGates_41 rfl (Nat.le_of_ble_eq_true rfl) ?_
        refine v_goto 13 dX6_countGates_44 (by decide) ?_
        refine wV.locs (lv' := [(0, .ref (fw 0 0)), (1, .int (gI _)), (2, .ref (fw 7 0)), (3, .int (gI 12)), (4, .int (gI _))]) ⟨rfl, rfl, rfl, rfl, rfl, trivial⟩ (ih _ _ (by omega) (by omega) (by omega))
set_option maxHeartbeats 4000000 in
set_option maxRecDepth 100000 in
theorem tX6_countGates {G : gG} {fw : Nat → Nat → Nat} {s : sG} {M : wM} (hX : wX G fw s M) : wT G qX6_countGates 0 0 [.ref (fw 0 0)] M (iP fun x M' => M' = M ∧ True) := by
  refine wT.intro (by decide) (Nat.le_of_ble_eq_true rfl) (fun sz => ?_)
  refine v_iconst dX6_countGates_0 ?_
  refine v_istoren dX6_countGates_1 (Nat.le_of_ble_eq_true rfl) ?_
  refine v_aloadn dX6_countGates_2 rfl ?_
  refine v_get dX6_countGates_3 gf_X6_39 (hX.2.1 0 0 (by decide)) rfl ?_
  refine v_astoren dX6_countGates_6 (Nat.le_of_ble_eq_true rfl) ?_
  refine v_aloadn dX6_countGates_7 rfl ?_
  refine v_alen (ty := .int) dX6_countGates_8 (hX.2.1 7 0 (by decide)) (by simp) rfl ?_
  refine v_istoren dX6_countGates_9 (Nat.le_of_ble_eq_true rfl) ?_
  refine v_iconst dX6_countGates_10 ?_
  refine v_istore dX6_countGates_11 (Nat.le_of_ble_eq_true rfl) ?_
  refine wV.locs (lv' := [(0, .ref (fw 0 0)), (1, .int (gI (0))), (2, .ref (fw 7 0)), (3, .int (gI 12)), (4, .int (gI (0)))]) ⟨rfl, rfl, rfl, rfl, rfl, trivial⟩ (tX6_countGates_loop hX 30 _ _ (by omega) (by omega) (by omega))
set_option maxHeartbeats 4000000 in
set_option maxRecDepth 100000 in
theorem tX6_count {G : gG} {fw : Nat → Nat → Nat} {s : sG} {M : wM} (hX : wX G fw s M) {a : Int} (ha : rng a) : wT G qX6_count 0 0 [.ref (fw 0 0), .int (gI a)] M (iP fun x M' => M' = M ∧ True) := by
  refine wT.intro (by decide) (Nat.le_of_ble_eq_true rfl) (fun sz => ?_)
  have h0 := hX.2.2.1
  have hnm := hX.2.2.2.1
  have hsh := hX.2.2.2.2.1
  have h8 := hX.2.2.2.2.2.1
  refine v_iloadn dX6_count_0 rfl ?_
  rcases (show a = 0 ∨ a = 1 ∨ a = 2 ∨ a = 3 ∨ (a < 0 ∨ 3 < a) by omega) with rfl | rfl | rfl | rfl | hout
  · refine v_tin 32 dX6_count_1 (by omega) (by omega) (by omega) rfl (by decide) ?_
    refine v_aloadn dX6_count_32 rfl ?_
    refine v_callV (tX6_countChanges hX) lc_X6_263 ⟨(Nat.le_of_ble_eq_true rfl), (Nat.le_of_ble_eq_true rfl)⟩ dX6_count_33 rfl rfl (Nat.le_of_ble_eq_true rfl) ⟨(Nat.le_of_ble_eq_true rfl), (Nat.le_of_ble_eq_true rfl)⟩ ⟨_, _, _, _, (hX.2.1 0 0 (by decide)), rfl⟩ (kP fun r33 hr33 hp33 => ?_)
    exact v_iret dX6_count_36 rfl ⟨(Nat.le_of_ble_eq_true rfl), (Nat.le_of_ble_eq_true rfl)⟩ (by omega) ⟨rfl, trivial⟩
  · refine v_tin 37 dX6_count_1 (by omega) (by omega) (by omega) rfl (by decide) ?_
    refine v_aloadn dX6_count_37 rfl ?_
    refine v_get dX6_count_38 gf_X6_50 (hX.2.1 0 0 (by decide)) rfl ?_
    exact v_iret dX6_count_41 rfl ⟨(Nat.le_of_ble_eq_true rfl), (Nat.le_of_ble_eq_true rfl)⟩ (by omega) ⟨rfl, trivial⟩
  · refine v_tin 42 dX6_count_1 (by omega) (by omega) (by omega) rfl (by decide) ?_
    refine v_aloadn dX6_count_42 rfl ?_
    refine v_callV (tX6_countChannels hX) lc_X6_266 ⟨(Nat.le_of_ble_eq_true rfl), (Nat.le_of_ble_eq_true rfl)⟩ dX6_count_43 rfl rfl (Nat.le_of_ble_eq_true rfl) ⟨(Nat.le_of_ble_eq_true rfl), (Nat.le_of_ble_eq_true rfl)⟩ ⟨_, _, _, _, (hX.2.1 0 0 (by decide)), rfl⟩ (kP fun r43 hr43 hp43 => ?_)
    exact v_iret dX6_count_46 rfl ⟨(Nat.le_of_ble_eq_true rfl), (Nat.le_of_ble_eq_true rfl)⟩ (by omega) ⟨rfl, trivial⟩
  · refine v_tin 47 dX6_count_1 (by omega) (by omega) (by omega) rfl (by decide) ?_
    refine v_aloadn dX6_count_47 rfl ?_
    refine v_callV (tX6_countGates hX) lc_X6_269 ⟨(Nat.le_of_ble_eq_true rfl), (Nat.le_of_ble_eq_true rfl)⟩ dX6_count_48 rfl rfl (Nat.le_of_ble_eq_true rfl) ⟨(Nat.le_of_ble_eq_true rfl), (Nat.le_of_ble_eq_true rfl)⟩ ⟨_, _, _, _, (hX.2.1 0 0 (by decide)), rfl⟩ (kP fun r48 hr48 hp48 => ?_)
    exact v_iret dX6_count_51 rfl ⟨(Nat.le_of_ble_eq_true rfl), (Nat.le_of_ble_eq_true rfl)⟩ (by omega) ⟨rfl, trivial⟩
  · refine v_tout 52 dX6_count_1 (by omega) hout (by decide) ?_
    refine v_iconst dX6_count_52 ?_
    exact v_iret dX6_count_53 rfl ⟨(Nat.le_of_ble_eq_true rfl), (Nat.le_of_ble_eq_true rfl)⟩ (by omega) ⟨rfl, trivial⟩
end
section
def PY (G : gG) (fw : Nat → Nat → Nat) (M : wM) (R : Int → sG → Prop) : Option Value → wM → Prop := iP fun x M' => ∃ s', wY G fw s' M' ∧ wO cntY fw M M' ∧ R x s'
set_option maxHeartbeats 4000000 in
set_option maxRecDepth 100000 in
theorem tX7_in {G : gG} {M : wM} {a b c : Int} (ha : rng a) (hb : rng b) (hc : rng c) : wT G qX7_in 0 0 [.int (gI a), .int (gI b), .int (gI c)] M (iP fun x M' => M' = M ∧ ((x = 1 ∧ b ≤ a ∧ a ≤ c) ∨ (x = 0 ∧ ¬ (b ≤ a ∧ a ≤ c)))) := by
  refine wT.intro (by decide) (Nat.le_of_ble_eq_true rfl) (fun sz => ?_)
  refine v_iloadn dX7_in_0 rfl ?_
  refine v_iloadn dX7_in_1 rfl ?_
  refine v_icmp_lt 14 dX7_in_2 (by decide) (by omega) (by omega) (fun h2 => ?_) (fun h2 => ?_)
  · refine v_iconst dX7_in_14 ?_
    exact v_zret dX7_in_15 rfl ⟨(Nat.le_of_ble_eq_true rfl), (Nat.le_of_ble_eq_true rfl)⟩ (by omega) ⟨rfl, by omega⟩
  · refine v_iloadn dX7_in_5 rfl ?_
    refine v_iloadn dX7_in_6 rfl ?_
    refine v_icmp_gt 14 dX7_in_7 (by decide) (by omega) (by omega) (fun h7 => ?_) (fun h7 => ?_)
    · refine v_iconst dX7_in_14 ?_
      exact v_zret dX7_in_15 rfl ⟨(Nat.le_of_ble_eq_true rfl), (Nat.le_of_ble_eq_true rfl)⟩ (by omega) ⟨rfl, by omega⟩
    · refine v_iconst dX7_in_10 ?_
      refine v_goto 15 dX7_in_11 (by decide) ?_
      exact v_zret dX7_in_15 rfl ⟨(Nat.le_of_ble_eq_true rfl), (Nat.le_of_ble_eq_true rfl)⟩ (by omega) ⟨rfl, by omega⟩
set_option maxHeartbeats 4000000 in
set_option maxRecDepth 100000 in
theorem tX7_isSignal {G : gG} {M : wM} {a : Int} (ha : rng a) : wT G qX7_isSignal 0 0 [.int (gI a)] M (iP fun x M' => M' = M ∧ ((x = 1 ∧ 0 ≤ a ∧ a ≤ 11) ∨ (x = 0 ∧ ¬ (0 ≤ a ∧ a ≤ 11)))) := by
  refine wT.intro (by decide) (Nat.le_of_ble_eq_true rfl) (fun sz => ?_)
  refine v_iloadn dX7_isSignal_0 rfl ?_
  refine v_iconst dX7_isSignal_1 ?_
  refine v_bipush dX7_isSignal_2 (by decide) ?_
  refine v_callS (tX7_in (by omega) (by omega) (by omega)) lc_X7_60 ⟨(Nat.le_of_ble_eq_true rfl), (Nat.le_of_ble_eq_true rfl)⟩ dX7_isSignal_4 rfl rfl (Nat.le_of_ble_eq_true rfl) ⟨(Nat.le_of_ble_eq_true rfl), (Nat.le_of_ble_eq_true rfl)⟩ (kP fun r4 hr4 hp4 => ?_)
  exact v_zret dX7_isSignal_7 rfl ⟨(Nat.le_of_ble_eq_true rfl), (Nat.le_of_ble_eq_true rfl)⟩ (by omega) ⟨rfl, by omega⟩
set_option maxHeartbeats 4000000 in
set_option maxRecDepth 100000 in
theorem tX7_isRow {G : gG} {M : wM} {a b : Int} (ha : rng a) (hb : rng b) : wT G qX7_isRow 0 0 [.int (gI a), .int (gI b)] M (iP fun x M' => M' = M ∧ ((x = 1 ∧ 0 ≤ a ∧ a ≤ 1 ∧ 0 ≤ b ∧ b ≤ 11) ∨ (x = 0 ∧ ¬ (0 ≤ a ∧ a ≤ 1 ∧ 0 ≤ b ∧ b ≤ 11)))) := by
  refine wT.intro (by decide) (Nat.le_of_ble_eq_true rfl) (fun sz => ?_)
  refine v_iloadn dX7_isRow_0 rfl ?_
  refine v_iconst dX7_isRow_1 ?_
  refine v_iconst dX7_isRow_2 ?_
  refine v_callS (tX7_in (by omega) (by omega) (by omega)) lc_X7_60 ⟨(Nat.le_of_ble_eq_true rfl), (Nat.le_of_ble_eq_true rfl)⟩ dX7_isRow_3 rfl rfl (Nat.le_of_ble_eq_true rfl) ⟨(Nat.le_of_ble_eq_true rfl), (Nat.le_of_ble_eq_true rfl)⟩ (kP fun r3 hr3 hp3 => ?_)
  refine v_if_eq 20 dX7_isRow_6 (by decide) (by omega) (fun h6 => ?_) (fun h6 => ?_)
  · refine v_iconst dX7_isRow_20 ?_
    exact v_zret dX7_isRow_21 rfl ⟨(Nat.le_of_ble_eq_true rfl), (Nat.le_of_ble_eq_true rfl)⟩ (by omega) ⟨rfl, by omega⟩
  · refine v_iloadn dX7_isRow_9 rfl ?_
    refine v_callS (tX7_isSignal (by omega)) lc_X7_64 ⟨(Nat.le_of_ble_eq_true rfl), (Nat.le_of_ble_eq_true rfl)⟩ dX7_isRow_10 rfl rfl (Nat.le_of_ble_eq_true rfl) ⟨(Nat.le_of_ble_eq_true rfl), (Nat.le_of_ble_eq_true rfl)⟩ (kP fun r10 hr10 hp10 => ?_)
    refine v_if_eq 20 dX7_isRow_13 (by decide) (by omega) (fun h13 => ?_) (fun h13 => ?_)
    · refine v_iconst dX7_isRow_20 ?_
      exact v_zret dX7_isRow_21 rfl ⟨(Nat.le_of_ble_eq_true rfl), (Nat.le_of_ble_eq_true rfl)⟩ (by omega) ⟨rfl, by omega⟩
    · refine v_iconst dX7_isRow_16 ?_
      refine v_goto 21 dX7_isRow_17 (by decide) ?_
      exact v_zret dX7_isRow_21 rfl ⟨(Nat.le_of_ble_eq_true rfl), (Nat.le_of_ble_eq_true rfl)⟩ (by omega) ⟨rfl, by omega⟩
set_option maxHeartbeats 4000000 in
set_option maxRecDepth 100000 in
theorem tX7_least {G : gG} {M : wM} {a b : Int} (ha : rng a) (hb : rng b) : wT G qX7_least 0 0 [.int (gI a), .int (gI b)] M (iP fun x M' => M' = M ∧ ((x = a ∧ a < b) ∨ (x = b ∧ b ≤ a))) := by
  refine wT.intro (by decide) (Nat.le_of_ble_eq_true rfl) (fun sz => ?_)
  refine v_iloadn dX7_least_0 rfl ?_
  refine v_iloadn dX7_least_1 rfl ?_
  refine v_icmp_ge 9 dX7_least_2 (by decide) (by omega) (by omega) (fun h2 => ?_) (fun h2 => ?_)
  · refine v_iloadn dX7_least_9 rfl ?_
    exact v_iret dX7_least_10 rfl ⟨(Nat.le_of_ble_eq_true rfl), (Nat.le_of_ble_eq_true rfl)⟩ (by omega) ⟨rfl, by omega⟩
  · refine v_iloadn dX7_least_5 rfl ?_
    refine v_goto 10 dX7_least_6 (by decide) ?_
    exact v_iret dX7_least_10 rfl ⟨(Nat.le_of_ble_eq_true rfl), (Nat.le_of_ble_eq_true rfl)⟩ (by omega) ⟨rfl, by omega⟩
def lastY (s : sG) (r : Int) : Int := if s 1 0 r.toNat = 0 then -1 else s 2 0 (50 * r + s 1 0 r.toNat - 1).toNat
set_option maxHeartbeats 4000000 in
set_option maxRecDepth 100000 in
theorem tX7_last {G : gG} {fw : Nat → Nat → Nat} {s : sG} {M : wM} (hY : wY G fw s M) {r : Int} (hr : bt 0 r 23) : wT G qX7_last 0 0 [.ref (fw 0 0), .int (gI r)] M (iP fun x M' => M' = M ∧ (x = lastY s r ∧ bt (-1) x 3999)) := by
  refine wT.intro (by decide) (Nat.le_of_ble_eq_true rfl) (fun sz => ?_)
  have h0 := hY.2.2.1
  have hrw := hY.2.2.2.1
  have hnm := hY.2.2.2.2.1
  have hsh := hY.2.2.2.2.2.1
  have hmk := hY.2.2.2.2.2.2.1
  have hic := hY.2.2.2.2.2.2.2.1
  have hcn := hY.2.2.2.2.2.2.2.2.1
  have hgt := hY.2.2.2.2.2.2.2.2.2
  have hr1 := hrw r.toNat (by omega)
  refine v_aloadn dX7_last_0 rfl ?_
  refine v_get dX7_last_1 gf_X7_13 (hY.2.1 0 0 (by decide)) rfl ?_
  refine v_iloadn dX7_last_4 rfl ?_
  refine v_iald dX7_last_5 (hY.2.1 1 0 (by decide)) (by omega) (by omega) (by decide) ?_
  refine v_if_ne 13 dX7_last_6 (by decide) (by omega) (fun h6 => ?_) (fun h6 => ?_)
  · refine v_aloadn dX7_last_13 rfl ?_
    refine v_get dX7_last_14 gf_X7_17 (hY.2.1 0 0 (by decide)) rfl ?_
    refine v_bipush dX7_last_17 (by decide) ?_
    refine v_iloadn dX7_last_19 rfl ?_
    refine v_imul dX7_last_20 ?_
    refine v_aloadn dX7_last_21 rfl ?_
    refine v_get dX7_last_22 gf_X7_13 (hY.2.1 0 0 (by decide)) rfl ?_
    refine v_iloadn dX7_last_25 rfl ?_
    refine v_iald dX7_last_26 (hY.2.1 1 0 (by decide)) (by omega) (by omega) (by decide) ?_
    refine v_iadd dX7_last_27 ?_
    refine v_iconst dX7_last_28 ?_
    refine v_isub dX7_last_29 ?_
    refine v_iald dX7_last_30 (hY.2.1 2 0 (by decide)) (by omega) (by omega) (by decide) ?_
    have ht1 := hr1.2 (s 1 0 r.toNat - 1).toNat (by omega)
    rw [show 50 * r.toNat + (s 1 0 r.toNat - 1).toNat = (50 * r + s 1 0 r.toNat - 1).toNat by omega] at ht1
    exact v_iret dX7_last_31 rfl ⟨(Nat.le_of_ble_eq_true rfl), (Nat.le_of_ble_eq_true rfl)⟩ (by omega) ⟨rfl, by unfold lastY; split <;> first | rfl | omega, by omega⟩
  · refine v_iconst dX7_last_9 ?_
    refine v_goto 31 dX7_last_10 (by decide) ?_
    exact v_iret dX7_last_31 rfl ⟨(Nat.le_of_ble_eq_true rfl), (Nat.le_of_ble_eq_true rfl)⟩ (by omega) ⟨rfl, by unfold lastY; split <;> first | rfl | omega, by omega⟩
def layS (s : sG) (r : Int) (t v : Int) : sG := ups (ups (ups s 2 0 (50 * r + s 1 0 r.toNat).toNat t) 3 0 (50 * r + s 1 0 r.toNat).toNat v) 1 0 r.toNat (s 1 0 r.toNat + 1)
theorem invY_lay {s : sG} (hI : invY s) {r t v : Int} (hr : bt 0 r 23) (hn : s 1 0 r.toNat < 50) (ht : bt 0 t 3999) (hv : bt 0 v 256) : invY (layS s r t v) := by
  have hrw := hI.2.1
  have e1 : layS s r t v 1 0 = upz (s 1 0) r.toNat (s 1 0 r.toNat + 1) := by unfold layS; rw [ups_at, ups_kf _ (by decide), ups_kf _ (by decide)]
  have e2 : layS s r t v 2 0 = upz (s 2 0) (50 * r + s 1 0 r.toNat).toNat t := by unfold layS; rw [ups_kf _ (by decide), ups_kf _ (by decide), ups_at]
  have e3 : layS s r t v 3 0 = upz (s 3 0) (50 * r + s 1 0 r.toNat).toNat v := by unfold layS; rw [ups_kf _ (by decide), ups_at, ups_kf _ (by decide)]
  refine invY_r hI (fun k h1 h2 h3 => by unfold layS; rw [ups_kf _ h1, ups_kf _ h3, ups_kf _ h2]) (fun r' hr' => ?_)
  rw [e1, e2, e3]
  have hb := hrw r' hr'
  have hb0 := hrw r.toNat (by omega)
  unfold upz
  by_cases q : r' = r.toNat
  · subst q
    rw [if_pos rfl]
    refine ⟨by omega, fun j hj => ?_⟩
    by_cases z : 50 * r.toNat + j = (50 * r + s 1 0 r.toNat).toNat
    · rw [if_pos z, if_pos z]
      omega
    · rw [if_neg z, if_neg z]
      exact hb.2 j (by omega)
  · rw [if_neg q]
    refine ⟨hb.1, fun j hj => ?_⟩
    have := hb.2 j hj
    rw [if_neg (by omega), if_neg (by omega)]
    exact this
set_option maxHeartbeats 4000000 in
set_option maxRecDepth 100000 in
theorem tX7_lays {G : gG} {fw : Nat → Nat → Nat} {s : sG} {M : wM} (hY : wY G fw s M) {r t v : Int} (hr : bt 0 r 23) (hn : s 1 0 r.toNat < 50) (ht : bt 0 t 3999) (hv : bt 0 v 256) : wT G qX7_lays 0 0 [.ref (fw 0 0), .int (gI r), .int (gI t), .int (gI v)] M (vP fun M' => ∃ s', wY G fw s' M' ∧ wO cntY fw M M' ∧ s' = layS s r t v) := by
  refine wT.intro (by decide) (Nat.le_of_ble_eq_true rfl) (fun sz => ?_)
  obtain ⟨hJ, hH, hI⟩ := id hY
  have hO : wO cntY fw M M := wO.rf
  have h0 := hY.2.2.1
  have hrw := hY.2.2.2.1
  have hnm := hY.2.2.2.2.1
  have hsh := hY.2.2.2.2.2.1
  have hmk := hY.2.2.2.2.2.2.1
  have hic := hY.2.2.2.2.2.2.2.1
  have hcn := hY.2.2.2.2.2.2.2.2.1
  have hgt := hY.2.2.2.2.2.2.2.2.2
  have hr1 := hrw r.toNat (by omega)
  refine v_aloadn dX7_lays_0 rfl ?_
  refine v_get dX7_lays_1 gf_X7_17 (hH 0 0 (by decide)) rfl ?_
  refine v_bipush dX7_lays_4 (by decide) ?_
  refine v_iloadn dX7_lays_6 rfl ?_
  refine v_imul dX7_lays_7 ?_
  refine v_aloadn dX7_lays_8 rfl ?_
  refine v_get dX7_lays_9 gf_X7_13 (hH 0 0 (by decide)) rfl ?_
  refine v_iloadn dX7_lays_12 rfl ?_
  refine v_iald dX7_lays_13 (hH 1 0 (by decide)) (by omega) (by omega) (by decide) ?_
  refine v_iadd dX7_lays_14 ?_
  refine v_iloadn dX7_lays_15 rfl ?_
  refine v_iast dX7_lays_16 (hH 2 0 (by decide)) (by omega) (by omega) (by decide) ?_
  generalize hMe16 : wup _ _ _ = M16
  have hO : wO cntY fw M M16 := by rw [← hMe16]; exact hO.up (k := 2) (i := 0) (by decide)
  obtain ⟨s16, hs16⟩ : ∃ z, z = ups s 2 0 ((50 * r + s 1 0 r.toNat).toNat) (t) := ⟨_, rfl⟩
  have hH : wH cntY (cellY G fw) fw s16 M16 := by rw [← hMe16, hs16]; exact wH.up hJ hH (k := 2) (i := 0) ((50 * r + s 1 0 r.toNat).toNat) (t) (by decide) rfl
  have e16 : s16 1 0 r.toNat = s 1 0 r.toNat := by rw [hs16, ups_kf _ (by decide)]
  refine v_aloadn dX7_lays_17 rfl ?_
  refine v_get dX7_lays_18 gf_X7_20 (hH 0 0 (by decide)) rfl ?_
  refine v_bipush dX7_lays_21 (by decide) ?_
  refine v_iloadn dX7_lays_23 rfl ?_
  refine v_imul dX7_lays_24 ?_
  refine v_aloadn dX7_lays_25 rfl ?_
  refine v_get dX7_lays_26 gf_X7_13 (hH 0 0 (by decide)) rfl ?_
  refine v_iloadn dX7_lays_29 rfl ?_
  refine v_iald dX7_lays_30 (hH 1 0 (by decide)) (by omega) (by omega) (by decide) ?_
  refine v_iadd dX7_lays_31 ?_
  refine v_iloadn dX7_lays_32 rfl ?_
  refine v_iast dX7_lays_33 (hH 3 0 (by decide)) (by omega) (by omega) (by decide) ?_
  generalize hMe33 : wup _ _ _ = M33
  have hO : wO cntY fw M M33 := by rw [← hMe33]; exact hO.up (k := 3) (i := 0) (by decide)
  obtain ⟨s33, hs33⟩ : ∃ z, z = ups s16 3 0 ((50 * r + s16 1 0 r.toNat).toNat) (v) := ⟨_, rfl⟩
  have hH : wH cntY (cellY G fw) fw s33 M33 := by rw [← hMe33, hs33]; exact wH.up hJ hH (k := 3) (i := 0) ((50 * r + s16 1 0 r.toNat).toNat) (v) (by decide) rfl
  have e33 : s33 1 0 r.toNat = s 1 0 r.toNat := by rw [hs33, ups_kf _ (by decide), e16]
  refine v_aloadn dX7_lays_34 rfl ?_
  refine v_get dX7_lays_35 gf_X7_13 (hH 0 0 (by decide)) rfl ?_
  refine v_iloadn dX7_lays_38 rfl ?_
  refine v_dup2 dX7_lays_39 rfl rfl ?_
  refine v_iald dX7_lays_40 (hH 1 0 (by decide)) (by omega) (by omega) (by decide) ?_
  refine v_iconst dX7_lays_41 ?_
  refine v_iadd dX7_lays_42 ?_
  refine v_iast dX7_lays_43 (hH 1 0 (by decide)) (by omega) (by omega) (by decide) ?_
  generalize hMe43 : wup _ _ _ = M43
  have hO : wO cntY fw M M43 := by rw [← hMe43]; exact hO.up (k := 1) (i := 0) (by decide)
  obtain ⟨s43, hs43⟩ : ∃ z, z = ups s33 1 0 (r.toNat) (s33 1 0 r.toNat + 1) := ⟨_, rfl⟩
  have hH : wH cntY (cellY G fw) fw s43 M43 := by rw [← hMe43, hs43]; exact wH.up hJ hH (k := 1) (i := 0) (r.toNat) (s33 1 0 r.toNat + 1) (by decide) rfl
  have ef : s43 = layS s r t v := by rw [hs43, e33, hs33, e16, hs16]; rfl
  exact v_vret dX7_lays_44 rfl ⟨(Nat.le_of_ble_eq_true rfl), (Nat.le_of_ble_eq_true rfl)⟩ ⟨s43, ⟨hJ, hH, by rw [ef]; exact invY_lay hI hr hn ht hv⟩, hO, ef⟩
set_option maxHeartbeats 4000000 in
set_option maxRecDepth 100000 in
theorem tX7_change {G : gG} {fw : Nat → Nat → Nat} {s : sG} {M : wM} (hY : wY G fw s M) {a b t v : Int} (ha : rng a) (hb : rng b) (ht : rng t) (hv : rng v) : wT G qX7_change 0 0 [.ref (fw 0 0), .int (gI a), .int (gI b), .int (gI t), .int (gI v)] M (PY G fw M (fun x s' => (¬ (bt 0 a 1 ∧ bt 0 b 11 ∧ bt 0 t 3999 ∧ bt 0 v 256) ∧ x = -1 ∧ s' = s) ∨ ((bt 0 a 1 ∧ bt 0 b 11 ∧ bt 0 t 3999 ∧ bt 0 v 256) ∧ ((t ≤ lastY s (12 * a + b) ∧ x = -2 ∧ s' = s) ∨ (lastY s (12 * a + b) < t ∧ s 1 0 (12 * a + b).toNat = 50 ∧ x = -3 ∧ s' = s) ∨ (lastY s (12 * a + b) < t ∧ s 1 0 (12 * a + b).toNat < 50 ∧ x = s 1 0 (12 * a + b).toNat + 1 ∧ s' = layS s (12 * a + b) t v))))) := by
  refine wT.intro (by decide) (Nat.le_of_ble_eq_true rfl) (fun sz => ?_)
  have h0 := hY.2.2.1
  have hrw := hY.2.2.2.1
  have hnm := hY.2.2.2.2.1
  have hsh := hY.2.2.2.2.2.1
  have hmk := hY.2.2.2.2.2.2.1
  have hic := hY.2.2.2.2.2.2.2.1
  have hcn := hY.2.2.2.2.2.2.2.2.1
  have hgt := hY.2.2.2.2.2.2.2.2.2
  refine v_iloadn dX7_change_0 rfl ?_
  refine v_iloadn dX7_change_1 rfl ?_
  refine v_callS (tX7_isRow (by omega) (by omega)) lc_X7_68 ⟨(Nat.le_of_ble_eq_true rfl), (Nat.le_of_ble_eq_true rfl)⟩ dX7_change_2 rfl rfl (Nat.le_of_ble_eq_true rfl) ⟨(Nat.le_of_ble_eq_true rfl), (Nat.le_of_ble_eq_true rfl)⟩ (kP fun r2 hr2 hp2 => ?_)
  refine v_if_eq 31 dX7_change_5 (by decide) (by omega) (fun h5 => ?_) (fun h5 => ?_)
  · refine v_iconst dX7_change_31 ?_
    exact v_iret dX7_change_32 rfl ⟨(Nat.le_of_ble_eq_true rfl), (Nat.le_of_ble_eq_true rfl)⟩ (by omega) ⟨s, hY, wO.rf, Or.inl ⟨by omega, by omega, rfl⟩⟩
  · refine v_iloadn dX7_change_8 rfl ?_
    refine v_iconst dX7_change_9 ?_
    refine v_sipush dX7_change_10 (by decide) ?_
    refine v_callS (tX7_in (by omega) (by omega) (by omega)) lc_X7_60 ⟨(Nat.le_of_ble_eq_true rfl), (Nat.le_of_ble_eq_true rfl)⟩ dX7_change_13 rfl rfl (Nat.le_of_ble_eq_true rfl) ⟨(Nat.le_of_ble_eq_true rfl), (Nat.le_of_ble_eq_true rfl)⟩ (kP fun r13 hr13 hp13 => ?_)
    refine v_if_eq 31 dX7_change_16 (by decide) (by omega) (fun h16 => ?_) (fun h16 => ?_)
    · refine v_iconst dX7_change_31 ?_
      exact v_iret dX7_change_32 rfl ⟨(Nat.le_of_ble_eq_true rfl), (Nat.le_of_ble_eq_true rfl)⟩ (by omega) ⟨s, hY, wO.rf, Or.inl ⟨by omega, by omega, rfl⟩⟩
    · refine v_iload dX7_change_19 rfl ?_
      refine v_iconst dX7_change_21 ?_
      refine v_sipush dX7_change_22 (by decide) ?_
      refine v_callS (tX7_in (by omega) (by omega) (by omega)) lc_X7_60 ⟨(Nat.le_of_ble_eq_true rfl), (Nat.le_of_ble_eq_true rfl)⟩ dX7_change_25 rfl rfl (Nat.le_of_ble_eq_true rfl) ⟨(Nat.le_of_ble_eq_true rfl), (Nat.le_of_ble_eq_true rfl)⟩ (kP fun r25 hr25 hp25 => ?_)
      refine v_if_ne 33 dX7_change_28 (by decide) (by omega) (fun h28 => ?_) (fun h28 => ?_)
      · refine v_bipush dX7_change_33 (by decide) ?_
        refine v_iloadn dX7_change_35 rfl ?_
        refine v_imul dX7_change_36 ?_
        refine v_iloadn dX7_change_37 rfl ?_
        refine v_iadd dX7_change_38 ?_
        refine v_istore dX7_change_39 (Nat.le_of_ble_eq_true rfl) ?_
        have hr1 := hrw (12 * a + b).toNat (by omega)
        refine v_iloadn dX7_change_41 rfl ?_
        refine v_aloadn dX7_change_42 rfl ?_
        refine v_iload dX7_change_43 rfl ?_
        refine v_callV (tX7_last hY (by omega)) lc_X7_72 ⟨(Nat.le_of_ble_eq_true rfl), (Nat.le_of_ble_eq_true rfl)⟩ dX7_change_45 rfl rfl (Nat.le_of_ble_eq_true rfl) ⟨(Nat.le_of_ble_eq_true rfl), (Nat.le_of_ble_eq_true rfl)⟩ ⟨_, _, _, _, hY.2.1 0 0 (by decide), rfl⟩ (kP fun r45 hr45 hp45 => ?_)
        refine v_icmp_gt 54 dX7_change_48 (by decide) (by omega) (by omega) (fun h48 => ?_) (fun h48 => ?_)
        · refine v_aloadn dX7_change_54 rfl ?_
          refine v_get dX7_change_55 gf_X7_13 (hY.2.1 0 0 (by decide)) rfl ?_
          refine v_iload dX7_change_58 rfl ?_
          refine v_iald dX7_change_60 (hY.2.1 1 0 (by decide)) (by omega) (by omega) (by decide) ?_
          refine v_bipush dX7_change_61 (by decide) ?_
          refine v_icmp_ne 69 dX7_change_63 (by decide) (by omega) (by omega) (fun h63 => ?_) (fun h63 => ?_)
          · refine v_aloadn dX7_change_69 rfl ?_
            refine v_iload dX7_change_70 rfl ?_
            refine v_iloadn dX7_change_72 rfl ?_
            refine v_iload dX7_change_73 rfl ?_
            refine v_callV (tX7_lays hY (by omega) (by omega) (by omega) (by omega)) lc_X7_76 ⟨(Nat.le_of_ble_eq_true rfl), (Nat.le_of_ble_eq_true rfl)⟩ dX7_change_75 rfl rfl (Nat.le_of_ble_eq_true rfl) ⟨(Nat.le_of_ble_eq_true rfl), (Nat.le_of_ble_eq_true rfl)⟩ ⟨_, _, _, _, hY.2.1 0 0 (by decide), rfl⟩ (kV fun M75 hp75 => ?_)
            obtain ⟨s75, hY75, hO75, hs75⟩ := hp75
            have e75 : s75 1 0 (12 * a + b).toNat = s 1 0 (12 * a + b).toNat + 1 := by rw [hs75]; unfold layS; rw [ups_at]; unfold upz; rw [if_pos rfl]
            refine v_aloadn dX7_change_78 rfl ?_
            refine v_get dX7_change_79 gf_X7_13 (hY75.2.1 0 0 (by decide)) rfl ?_
            refine v_iload dX7_change_82 rfl ?_
            refine v_iald dX7_change_84 (hY75.2.1 1 0 (by decide)) (by omega) (by omega) (by decide) ?_
            exact v_iret dX7_change_85 rfl ⟨(Nat.le_of_ble_eq_true rfl), (Nat.le_of_ble_eq_true rfl)⟩ (by omega) ⟨s75, hY75, hO75, Or.inr ⟨by omega, Or.inr (Or.inr ⟨by omega, by omega, by omega, hs75⟩)⟩⟩
          · refine v_bipush dX7_change_66 (by decide) ?_
            exact v_iret dX7_change_68 rfl ⟨(Nat.le_of_ble_eq_true rfl), (Nat.le_of_ble_eq_true rfl)⟩ (by omega) ⟨s, hY, wO.rf, Or.inr ⟨by omega, Or.inr (Or.inl ⟨by omega, by omega, by omega, rfl⟩)⟩⟩
        · refine v_bipush dX7_change_51 (by decide) ?_
          exact v_iret dX7_change_53 rfl ⟨(Nat.le_of_ble_eq_true rfl), (Nat.le_of_ble_eq_true rfl)⟩ (by omega) ⟨s, hY, wO.rf, Or.inr ⟨by omega, Or.inl ⟨by omega, by omega, rfl⟩⟩⟩
      · refine v_iconst dX7_change_31 ?_
        exact v_iret dX7_change_32 rfl ⟨(Nat.le_of_ble_eq_true rfl), (Nat.le_of_ble_eq_true rfl)⟩ (by omega) ⟨s, hY, wO.rf, Or.inl ⟨by omega, by omega, rfl⟩⟩
def atP (s : sG) (r t x : Int) : Prop := ∃ j : Int, 0 ≤ j ∧ j ≤ s 1 0 r.toNat ∧ (∀ i : Nat, (i : Int) < j → s 2 0 (50 * r + i).toNat ≤ t) ∧ (j = s 1 0 r.toNat ∨ t < s 2 0 (50 * r + j).toNat) ∧ x = if j = 0 then 256 else s 3 0 (50 * r + j - 1).toNat
set_option maxHeartbeats 4000000 in
set_option maxRecDepth 100000 in
theorem tX7_at_loop {sz : Nat} {M0 : wM} {G : gG} {fw : Nat → Nat → Nat} {s : sG} {M : wM} (hY : wY G fw s M) {a b t : Int} (ha : bt 0 a 1) (hb : bt 0 b 11) (ht : rng t) : ∀ (k : Nat) (v p : Int), 0 ≤ 51 - (p - 50 * (12 * a + b)) → 51 - (p - 50 * (12 * a + b)) < (k : Int) → (bt (50 * (12 * a + b)) p (50 * (12 * a + b) + s 1 0 (12 * a + b).toNat)) → (bt 0 v 256) → (∀ i : Nat, (i : Int) < p - 50 * (12 * a + b) → s 2 0 (50 * (12 * a + b) + i).toNat ≤ t) → (v = if p - 50 * (12 * a + b) = 0 then 256 else s 3 0 (50 * (12 * a + b) + (p - 50 * (12 * a + b)) - 1).toNat) → wV G qX7_at 0 0 sz M0 0 0 20 [(0, .ref (fw 0 0)), (1, .int (gI a)), (2, .int (gI b)), (3, .int (gI t)), (4, .int (gI (12 * a + b))), (5, .int (gI v)), (6, .int (gI p))] [] M (iP fun x M' => M' = M ∧ (bt 0 x 256 ∧ atP s (12 * a + b) t x)) := by
  intro k
  induction k with
  | zero =>
    intros
    omega
  | succ k ih =>
    intro v p hmz hml h1 h2 h3 h4
    have h0 := hY.2.2.1
    have hrw := hY.2.2.2.1
    have hnm := hY.2.2.2.2.1
    have hsh := hY.2.2.2.2.2.1
    have hmk := hY.2.2.2.2.2.2.1
    have hic := hY.2.2.2.2.2.2.2.1
    have hcn := hY.2.2.2.2.2.2.2.2.1
    have hgt := hY.2.2.2.2.2.2.2.2.2
    have hr1 := hrw (12 * a + b).toNat (by omega)
    have hw : bt 0 (12 * a + b) 23 := by omega
    refine v_iload dX7_at_20 rfl ?_
    refine v_bipush dX7_at_22 (by decide) ?_
    refine v_iload dX7_at_24 rfl ?_
    refine v_imul dX7_at_26 ?_
    refine v_aloadn dX7_at_27 rfl ?_
    refine v_get dX7_at_28 gf_X7_13 (hY.2.1 0 0 (by decide)) rfl ?_
    refine v_iload dX7_at_31 rfl ?_
    refine v_iald dX7_at_33 (hY.2.1 1 0 (by decide)) (by omega) (by omega) (by decide) ?_
    refine v_iadd dX7_at_34 ?_
    refine v_icmp_ge 64 dX7_at_35 (by decide) (by omega) (by omega) (fun h35 => ?_) (fun h35 => ?_)
    · refine v_iload dX7_at_64 rfl ?_
      exact v_iret dX7_at_66 rfl ⟨(Nat.le_of_ble_eq_true rfl), (Nat.le_of_ble_eq_true rfl)⟩ (by omega) ⟨rfl, h2, p - 50 * (12 * a + b), by omega, by omega, h3, Or.inl (by omega), h4⟩
    · refine v_aloadn dX7_at_38 rfl ?_
      refine v_get dX7_at_39 gf_X7_17 (hY.2.1 0 0 (by decide)) rfl ?_
      refine v_iload dX7_at_42 rfl ?_
      refine v_iald dX7_at_44 (hY.2.1 2 0 (by decide)) (by omega) (by omega) (by decide) ?_
      have ht1 := hr1.2 (p - 50 * (12 * a + b)).toNat (by omega)
      rw [show 50 * (12 * a + b).toNat + (p - 50 * (12 * a + b)).toNat = (p).toNat by omega] at ht1
      refine v_iloadn dX7_at_45 rfl ?_
      refine v_icmp_gt 64 dX7_at_46 (by decide) (by omega) (by omega) (fun h46 => ?_) (fun h46 => ?_)
      · refine v_iload dX7_at_64 rfl ?_
        exact v_iret dX7_at_66 rfl ⟨(Nat.le_of_ble_eq_true rfl), (Nat.le_of_ble_eq_true rfl)⟩ (by omega) ⟨rfl, h2, p - 50 * (12 * a + b), by omega, by omega, h3, Or.inr (by rw [show 50 * (12 * a + b) + (p - 50 * (12 * a + b)) = p by omega]; exact h46), h4⟩
      · refine v_aloadn dX7_at_49 rfl ?_
        refine v_get dX7_at_50 gf_X7_20 (hY.2.1 0 0 (by decide)) rfl ?_
        refine v_iload dX7_at_53 rfl ?_
        refine v_iald dX7_at_55 (hY.2.1 3 0 (by decide)) (by omega) (by omega) (by decide) ?_
        refine v_istore dX7_at_56 (Nat.le_of_ble_eq_true rfl) ?_
        refine v_iinc dX7_at_58 rfl (Nat.le_of_ble_eq_true rfl) ?_
        refine v_goto 20 dX7_at_61 (by decide) ?_
        refine wV.locs (lv' := [(0, .ref (fw 0 0)), (1, .int (gI a)), (2, .int (gI b)), (3, .int (gI t)), (4, .int (gI (12 * a + b))), (5, .int (gI _)), (6, .int (gI _))]) ⟨rfl, rfl, rfl, rfl, rfl, rfl, rfl, trivial⟩ (ih _ _ (by omega) (by omega) (by omega) (by omega) (fun i hi => (show (i : Int) < p - 50 * (12 * a + b) ∨ (50 * (12 * a + b) + i).toNat = p.toNat by omega).elim (fun h => h3 i h) (fun h => by rw [h]; exact h46)) (by rw [if_neg (by omega)]; congr 1; omega))
set_option maxHeartbeats 4000000 in
set_option maxRecDepth 100000 in
theorem tX7_at {G : gG} {fw : Nat → Nat → Nat} {s : sG} {M : wM} (hY : wY G fw s M) {a b t : Int} (ha : bt 0 a 1) (hb : bt 0 b 11) (ht : rng t) : wT G qX7_at 0 0 [.ref (fw 0 0), .int (gI a), .int (gI b), .int (gI t)] M (iP fun x M' => M' = M ∧ (bt 0 x 256 ∧ atP s (12 * a + b) t x)) := by
  refine wT.intro (by decide) (Nat.le_of_ble_eq_true rfl) (fun sz => ?_)
  have h0 := hY.2.2.1
  have hrw := hY.2.2.2.1
  have hnm := hY.2.2.2.2.1
  have hsh := hY.2.2.2.2.2.1
  have hmk := hY.2.2.2.2.2.2.1
  have hic := hY.2.2.2.2.2.2.2.1
  have hcn := hY.2.2.2.2.2.2.2.2.1
  have hgt := hY.2.2.2.2.2.2.2.2.2
  have hr1 := hrw (12 * a + b).toNat (by omega)
  have hw : bt 0 (12 * a + b) 23 := by omega
  refine v_bipush dX7_at_0 (by decide) ?_
  refine v_iloadn dX7_at_2 rfl ?_
  refine v_imul dX7_at_3 ?_
  refine v_iloadn dX7_at_4 rfl ?_
  refine v_iadd dX7_at_5 ?_
  refine v_istore dX7_at_6 (Nat.le_of_ble_eq_true rfl) ?_
  refine v_sipush dX7_at_8 (by decide) ?_
  refine v_istore dX7_at_11 (Nat.le_of_ble_eq_true rfl) ?_
  refine v_bipush dX7_at_13 (by decide) ?_
  refine v_iload dX7_at_15 rfl ?_
  refine v_imul dX7_at_17 ?_
  refine v_istore dX7_at_18 (Nat.le_of_ble_eq_true rfl) ?_
  refine wV.locs (lv' := [(0, .ref (fw 0 0)), (1, .int (gI a)), (2, .int (gI b)), (3, .int (gI t)), (4, .int (gI (12 * a + b))), (5, .int (gI (256))), (6, .int (gI (50 * (12 * a + b))))]) ⟨rfl, rfl, rfl, rfl, rfl, rfl, rfl, trivial⟩ (tX7_at_loop hY ha hb ht 60 _ _ (by omega) (by omega) (by omega) (by omega) (fun i hi => by omega) (by rw [if_pos (by omega)]))
set_option maxHeartbeats 4000000 in
set_option maxRecDepth 100000 in
theorem tX7_nextChange_loop {sz : Nat} {M0 : wM} {G : gG} {fw : Nat → Nat → Nat} {s : sG} {M : wM} (hY : wY G fw s M) {a b t : Int} (ha : bt 0 a 1) (hb : bt 0 b 11) (ht : rng t) (ht2 : t < 100000) : ∀ (k : Nat) (p : Int), 0 ≤ 51 - (p - 50 * (12 * a + b)) → 51 - (p - 50 * (12 * a + b)) < (k : Int) → (bt (50 * (12 * a + b)) p (50 * (12 * a + b) + s 1 0 (12 * a + b).toNat)) → wV G qX7_nextChange 0 0 sz M0 0 0 15 [(0, .ref (fw 0 0)), (1, .int (gI a)), (2, .int (gI b)), (3, .int (gI t)), (4, .int (gI (12 * a + b))), (5, .int (gI p))] [] M (iP fun x M' => M' = M ∧ (t < x ∧ (x = 100000 ∨ bt 0 x 3999))) := by
  intro k
  induction k with
  | zero =>
    intros
    omega
  | succ k ih =>
    intro p hmz hml h1
    have h0 := hY.2.2.1
    have hrw := hY.2.2.2.1
    have hnm := hY.2.2.2.2.1
    have hsh := hY.2.2.2.2.2.1
    have hmk := hY.2.2.2.2.2.2.1
    have hic := hY.2.2.2.2.2.2.2.1
    have hcn := hY.2.2.2.2.2.2.2.2.1
    have hgt := hY.2.2.2.2.2.2.2.2.2
    have hr1 := hrw (12 * a + b).toNat (by omega)
    have hw : bt 0 (12 * a + b) 23 := by omega
    refine v_iload dX7_nextChange_15 rfl ?_
    refine v_bipush dX7_nextChange_17 (by decide) ?_
    refine v_iload dX7_nextChange_19 rfl ?_
    refine v_imul dX7_nextChange_21 ?_
    refine v_aloadn dX7_nextChange_22 rfl ?_
    refine v_get dX7_nextChange_23 gf_X7_13 (hY.2.1 0 0 (by decide)) rfl ?_
    refine v_iload dX7_nextChange_26 rfl ?_
    refine v_iald dX7_nextChange_28 (hY.2.1 1 0 (by decide)) (by omega) (by omega) (by decide) ?_
    refine v_iadd dX7_nextChange_29 ?_
    refine v_icmp_ge 58 dX7_nextChange_30 (by decide) (by omega) (by omega) (fun h30 => ?_) (fun h30 => ?_)
    · refine v_ldc (n := 100000) dX7_nextChange_58 (by decide +kernel) ?_
      exact v_iret dX7_nextChange_60 rfl ⟨(Nat.le_of_ble_eq_true rfl), (Nat.le_of_ble_eq_true rfl)⟩ (by omega) ⟨rfl, by omega⟩
    · refine v_aloadn dX7_nextChange_33 rfl ?_
      refine v_get dX7_nextChange_34 gf_X7_17 (hY.2.1 0 0 (by decide)) rfl ?_
      refine v_iload dX7_nextChange_37 rfl ?_
      refine v_iald dX7_nextChange_39 (hY.2.1 2 0 (by decide)) (by omega) (by omega) (by decide) ?_
      have ht1 := hr1.2 (p - 50 * (12 * a + b)).toNat (by omega)
      rw [show 50 * (12 * a + b).toNat + (p - 50 * (12 * a + b)).toNat = (p).toNat by omega] at ht1
      refine v_iloadn dX7_nextChange_40 rfl ?_
      refine v_icmp_le 52 dX7_nextChange_41 (by decide) (by omega) (by omega) (fun h41 => ?_) (fun h41 => ?_)
      · refine v_iinc dX7_nextChange_52 rfl (Nat.le_of_ble_eq_true rfl) ?_
        refine v_goto 15 dX7_nextChange_55 (by decide) ?_
        refine wV.locs (lv' := [(0, .ref (fw 0 0)), (1, .int (gI a)), (2, .int (gI b)), (3, .int (gI t)), (4, .int (gI (12 * a + b))), (5, .int (gI _))]) ⟨rfl, rfl, rfl, rfl, rfl, rfl, trivial⟩ (ih _ (by omega) (by omega) (by omega))
      · refine v_aloadn dX7_nextChange_44 rfl ?_
        refine v_get dX7_nextChange_45 gf_X7_17 (hY.2.1 0 0 (by decide)) rfl ?_
        refine v_iload dX7_nextChange_48 rfl ?_
        refine v_iald dX7_nextChange_50 (hY.2.1 2 0 (by decide)) (by omega) (by omega) (by decide) ?_
        exact v_iret dX7_nextChange_51 rfl ⟨(Nat.le_of_ble_eq_true rfl), (Nat.le_of_ble_eq_true rfl)⟩ (by omega) ⟨rfl, by omega⟩
set_option maxHeartbeats 4000000 in
set_option maxRecDepth 100000 in
theorem tX7_nextChange {G : gG} {fw : Nat → Nat → Nat} {s : sG} {M : wM} (hY : wY G fw s M) {a b t : Int} (ha : bt 0 a 1) (hb : bt 0 b 11) (ht : rng t) (ht2 : t < 100000) : wT G qX7_nextChange 0 0 [.ref (fw 0 0), .int (gI a), .int (gI b), .int (gI t)] M (iP fun x M' => M' = M ∧ (t < x ∧ (x = 100000 ∨ bt 0 x 3999))) := by
  refine wT.intro (by decide) (Nat.le_of_ble_eq_true rfl) (fun sz => ?_)
  have h0 := hY.2.2.1
  have hrw := hY.2.2.2.1
  have hnm := hY.2.2.2.2.1
  have hsh := hY.2.2.2.2.2.1
  have hmk := hY.2.2.2.2.2.2.1
  have hic := hY.2.2.2.2.2.2.2.1
  have hcn := hY.2.2.2.2.2.2.2.2.1
  have hgt := hY.2.2.2.2.2.2.2.2.2
  have hr1 := hrw (12 * a + b).toNat (by omega)
  have hw : bt 0 (12 * a + b) 23 := by omega
  refine v_bipush dX7_nextChange_0 (by decide) ?_
  refine v_iloadn dX7_nextChange_2 rfl ?_
  refine v_imul dX7_nextChange_3 ?_
  refine v_iloadn dX7_nextChange_4 rfl ?_
  refine v_iadd dX7_nextChange_5 ?_
  refine v_istore dX7_nextChange_6 (Nat.le_of_ble_eq_true rfl) ?_
  refine v_bipush dX7_nextChange_8 (by decide) ?_
  refine v_iload dX7_nextChange_10 rfl ?_
  refine v_imul dX7_nextChange_12 ?_
  refine v_istore dX7_nextChange_13 (Nat.le_of_ble_eq_true rfl) ?_
  refine wV.locs (lv' := [(0, .ref (fw 0 0)), (1, .int (gI a)), (2, .int (gI b)), (3, .int (gI t)), (4, .int (gI (12 * a + b))), (5, .int (gI (50 * (12 * a + b))))]) ⟨rfl, rfl, rfl, rfl, rfl, rfl, trivial⟩ (tX7_nextChange_loop hY ha hb ht ht2 60 _ (by omega) (by omega) (by omega))
set_option maxHeartbeats 4000000 in
set_option maxRecDepth 100000 in
theorem tX7_value {G : gG} {fw : Nat → Nat → Nat} {s : sG} {M : wM} (hY : wY G fw s M) {a b t : Int} (ha : rng a) (hb : rng b) (ht : rng t) : wT G qX7_value 0 0 [.ref (fw 0 0), .int (gI a), .int (gI b), .int (gI t)] M (iP fun x M' => M' = M ∧ ((¬ (bt 0 a 1 ∧ bt 0 b 11 ∧ bt 0 t 3999) ∧ x = -1) ∨ ((bt 0 a 1 ∧ bt 0 b 11 ∧ bt 0 t 3999) ∧ atP s (12 * a + b) t x))) := by
  refine wT.intro (by decide) (Nat.le_of_ble_eq_true rfl) (fun sz => ?_)
  have h0 := hY.2.2.1
  have hrw := hY.2.2.2.1
  have hnm := hY.2.2.2.2.1
  have hsh := hY.2.2.2.2.2.1
  have hmk := hY.2.2.2.2.2.2.1
  have hic := hY.2.2.2.2.2.2.2.1
  have hcn := hY.2.2.2.2.2.2.2.2.1
  have hgt := hY.2.2.2.2.2.2.2.2.2
  refine v_iloadn dX7_value_0 rfl ?_
  refine v_iloadn dX7_value_1 rfl ?_
  refine v_callS (tX7_isRow (by omega) (by omega)) lc_X7_68 ⟨(Nat.le_of_ble_eq_true rfl), (Nat.le_of_ble_eq_true rfl)⟩ dX7_value_2 rfl rfl (Nat.le_of_ble_eq_true rfl) ⟨(Nat.le_of_ble_eq_true rfl), (Nat.le_of_ble_eq_true rfl)⟩ (kP fun r2 hr2 hp2 => ?_)
  refine v_if_eq 29 dX7_value_5 (by decide) (by omega) (fun h5 => ?_) (fun h5 => ?_)
  · refine v_iconst dX7_value_29 ?_
    exact v_iret dX7_value_30 rfl ⟨(Nat.le_of_ble_eq_true rfl), (Nat.le_of_ble_eq_true rfl)⟩ (by first | omega | exact hr23) ⟨rfl, by first | exact Or.inl ⟨by omega, by omega⟩ | exact Or.inr ⟨by omega, hp23.2⟩⟩
  · refine v_iloadn dX7_value_8 rfl ?_
    refine v_iconst dX7_value_9 ?_
    refine v_sipush dX7_value_10 (by decide) ?_
    refine v_callS (tX7_in (by omega) (by omega) (by omega)) lc_X7_60 ⟨(Nat.le_of_ble_eq_true rfl), (Nat.le_of_ble_eq_true rfl)⟩ dX7_value_13 rfl rfl (Nat.le_of_ble_eq_true rfl) ⟨(Nat.le_of_ble_eq_true rfl), (Nat.le_of_ble_eq_true rfl)⟩ (kP fun r13 hr13 hp13 => ?_)
    refine v_if_eq 29 dX7_value_16 (by decide) (by omega) (fun h16 => ?_) (fun h16 => ?_)
    · refine v_iconst dX7_value_29 ?_
      exact v_iret dX7_value_30 rfl ⟨(Nat.le_of_ble_eq_true rfl), (Nat.le_of_ble_eq_true rfl)⟩ (by first | omega | exact hr23) ⟨rfl, by first | exact Or.inl ⟨by omega, by omega⟩ | exact Or.inr ⟨by omega, hp23.2⟩⟩
    · refine v_aloadn dX7_value_19 rfl ?_
      refine v_iloadn dX7_value_20 rfl ?_
      refine v_iloadn dX7_value_21 rfl ?_
      refine v_iloadn dX7_value_22 rfl ?_
      refine v_callV (tX7_at hY (by omega) (by omega) (by omega)) lc_X7_83 ⟨(Nat.le_of_ble_eq_true rfl), (Nat.le_of_ble_eq_true rfl)⟩ dX7_value_23 rfl rfl (Nat.le_of_ble_eq_true rfl) ⟨(Nat.le_of_ble_eq_true rfl), (Nat.le_of_ble_eq_true rfl)⟩ ⟨_, _, _, _, hY.2.1 0 0 (by decide), rfl⟩ (kP fun r23 hr23 hp23 => ?_)
      refine v_goto 30 dX7_value_26 (by decide) ?_
      exact v_iret dX7_value_30 rfl ⟨(Nat.le_of_ble_eq_true rfl), (Nat.le_of_ble_eq_true rfl)⟩ (by first | omega | exact hr23) ⟨rfl, by first | exact Or.inl ⟨by omega, by omega⟩ | exact Or.inr ⟨by omega, hp23.2⟩⟩
end
