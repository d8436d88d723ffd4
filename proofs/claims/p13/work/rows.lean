section
-- ===== PART A: goes FIRST, ahead of the names: the tables' words, and 'selects' of the private methods out of them =====
/-- a private method of a class that the tables say can be made, by its rows of tables_1 -/
def lw_okq (q : MethodName × Nat) : Prop := (q.1.cls ≠ "java/lang/invoke/MethodHandle" ∧ q.1.cls ≠ "java/lang/invoke/VarHandle") ∧ Cond.instantiable q.1.cls q.2 ∈ tables_1 ∧ Cond.privateMethod q.1 ∈ tables_1 ∧ Cond.instanceMethod q.1 ∈ tables_1
theorem lw_p0 : lw_okq (⟨"KeyFrames$Picture", "contextOf", "(II)I"⟩, 14) := ⟨⟨by decide +kernel, by decide +kernel⟩, List.mem_of_getElem? (i := 80) (by decide +kernel), List.mem_of_getElem? (i := 257) (by decide +kernel), List.mem_of_getElem? (i := 258) (by decide +kernel)⟩
theorem lw_p1 : lw_okq (⟨"KeyFrames$CoefficientTree", "readSize", "(LKeyFrames$BitReader;I)I"⟩, 1) := ⟨⟨by decide +kernel, by decide +kernel⟩, List.mem_of_getElem? (i := 86) (by decide +kernel), List.mem_of_getElem? (i := 267) (by decide +kernel), List.mem_of_getElem? (i := 268) (by decide +kernel)⟩
theorem lw_p2 : lw_okq (⟨"KeyFrames$CoefficientTree", "readSizeClass", "(LKeyFrames$BitReader;I)I"⟩, 1) := ⟨⟨by decide +kernel, by decide +kernel⟩, List.mem_of_getElem? (i := 86) (by decide +kernel), List.mem_of_getElem? (i := 271) (by decide +kernel), List.mem_of_getElem? (i := 272) (by decide +kernel)⟩
theorem lw_p3 : lw_okq (⟨"KeyFrames$Picture", "hasSomeNotZero", "(I)Z"⟩, 14) := ⟨⟨by decide +kernel, by decide +kernel⟩, List.mem_of_getElem? (i := 80) (by decide +kernel), List.mem_of_getElem? (i := 285) (by decide +kernel), List.mem_of_getElem? (i := 286) (by decide +kernel)⟩
theorem lw_p4 : lw_okq (⟨"KeyFrames$Picture", "rebuild", "(III)V"⟩, 14) := ⟨⟨by decide +kernel, by decide +kernel⟩, List.mem_of_getElem? (i := 80) (by decide +kernel), List.mem_of_getElem? (i := 289) (by decide +kernel), List.mem_of_getElem? (i := 290) (by decide +kernel)⟩
theorem lw_p5 : lw_okq (⟨"KeyFrames$Transform", "turnFour", "(II)V"⟩, 1) := ⟨⟨by decide +kernel, by decide +kernel⟩, List.mem_of_getElem? (i := 96) (by decide +kernel), List.mem_of_getElem? (i := 303) (by decide +kernel), List.mem_of_getElem? (i := 304) (by decide +kernel)⟩
theorem lw_p6 : lw_okq (⟨"KeyFrames$Plane", "evenOf", "(II)I"⟩, 1) := ⟨⟨by decide +kernel, by decide +kernel⟩, List.mem_of_getElem? (i := 108) (by decide +kernel), List.mem_of_getElem? (i := 320) (by decide +kernel), List.mem_of_getElem? (i := 321) (by decide +kernel)⟩
theorem lw_p7 : lw_okq (⟨"KeyFrames$Plane", "above", "(II)I"⟩, 1) := ⟨⟨by decide +kernel, by decide +kernel⟩, List.mem_of_getElem? (i := 108) (by decide +kernel), List.mem_of_getElem? (i := 324) (by decide +kernel), List.mem_of_getElem? (i := 325) (by decide +kernel)⟩
theorem lw_p8 : lw_okq (⟨"KeyFrames$Plane", "leftOf", "(II)I"⟩, 1) := ⟨⟨by decide +kernel, by decide +kernel⟩, List.mem_of_getElem? (i := 108) (by decide +kernel), List.mem_of_getElem? (i := 332) (by decide +kernel), List.mem_of_getElem? (i := 333) (by decide +kernel)⟩
theorem lw_p9 : lw_okq (⟨"KeyFrames$Plane", "corner", "(II)I"⟩, 1) := ⟨⟨by decide +kernel, by decide +kernel⟩, List.mem_of_getElem? (i := 108) (by decide +kernel), List.mem_of_getElem? (i := 336) (by decide +kernel), List.mem_of_getElem? (i := 337) (by decide +kernel)⟩
theorem lw_p10 : lw_okq (⟨"KeyFrames$Plane", "filterEdge", "(IIII)I"⟩, 1) := ⟨⟨by decide +kernel, by decide +kernel⟩, List.mem_of_getElem? (i := 108) (by decide +kernel), List.mem_of_getElem? (i := 353) (by decide +kernel), List.mem_of_getElem? (i := 354) (by decide +kernel)⟩
theorem lw_p11 : lw_okq (⟨"KeyFrames$Plane", "filterFour", "(III)Z"⟩, 1) := ⟨⟨by decide +kernel, by decide +kernel⟩, List.mem_of_getElem? (i := 108) (by decide +kernel), List.mem_of_getElem? (i := 357) (by decide +kernel), List.mem_of_getElem? (i := 358) (by decide +kernel)⟩
theorem lw_p12 : lw_okq (⟨"java/lang/Throwable", "fillInStackTrace", "(I)Ljava/lang/Throwable;"⟩, 6) := ⟨⟨by decide +kernel, by decide +kernel⟩, List.mem_of_getElem? (i := 431) (by decide +kernel), List.mem_of_getElem? (i := 429) (by decide +kernel), List.mem_of_getElem? (i := 430) (by decide +kernel)⟩
theorem lw_p13 : lw_okq (⟨"KeyFrames$BitWriter", "shiftBottom", "()V"⟩, 4) := ⟨⟨by decide +kernel, by decide +kernel⟩, List.mem_of_getElem? (i := 39) (by decide +kernel), List.mem_of_getElem? (i := 500) (by decide +kernel), List.mem_of_getElem? (i := 501) (by decide +kernel)⟩
theorem lw_p14 : lw_okq (⟨"KeyFrames$Picture", "hasBlock", "(I)Z"⟩, 14) := ⟨⟨by decide +kernel, by decide +kernel⟩, List.mem_of_getElem? (i := 80) (by decide +kernel), List.mem_of_getElem? (i := 542) (by decide +kernel), List.mem_of_getElem? (i := 543) (by decide +kernel)⟩
theorem lw_p15 : lw_okq (⟨"KeyFramesModel", "refused", "(I)Z"⟩, 22) := ⟨⟨by decide +kernel, by decide +kernel⟩, List.mem_of_getElem? (i := 563) (by decide +kernel), List.mem_of_getElem? (i := 643) (by decide +kernel), List.mem_of_getElem? (i := 644) (by decide +kernel)⟩
def lw_privs_1 : List (MethodName × Nat) := [(⟨"KeyFrames$Picture", "contextOf", "(II)I"⟩, 14), (⟨"KeyFrames$CoefficientTree", "readSize", "(LKeyFrames$BitReader;I)I"⟩, 1), (⟨"KeyFrames$CoefficientTree", "readSizeClass", "(LKeyFrames$BitReader;I)I"⟩, 1), (⟨"KeyFrames$Picture", "hasSomeNotZero", "(I)Z"⟩, 14), (⟨"KeyFrames$Picture", "rebuild", "(III)V"⟩, 14), (⟨"KeyFrames$Transform", "turnFour", "(II)V"⟩, 1), (⟨"KeyFrames$Plane", "evenOf", "(II)I"⟩, 1), (⟨"KeyFrames$Plane", "above", "(II)I"⟩, 1), (⟨"KeyFrames$Plane", "leftOf", "(II)I"⟩, 1), (⟨"KeyFrames$Plane", "corner", "(II)I"⟩, 1), (⟨"KeyFrames$Plane", "filterEdge", "(IIII)I"⟩, 1), (⟨"KeyFrames$Plane", "filterFour", "(III)Z"⟩, 1), (⟨"java/lang/Throwable", "fillInStackTrace", "(I)Ljava/lang/Throwable;"⟩, 6), (⟨"KeyFrames$BitWriter", "shiftBottom", "()V"⟩, 4), (⟨"KeyFrames$Picture", "hasBlock", "(I)Z"⟩, 14), (⟨"KeyFramesModel", "refused", "(I)Z"⟩, 22)]
theorem lw_r1 : ∀ q ∈ lw_privs_1, lw_okq q := List.forall_mem_cons.mpr ⟨lw_p0, List.forall_mem_cons.mpr ⟨lw_p1, List.forall_mem_cons.mpr ⟨lw_p2, List.forall_mem_cons.mpr ⟨lw_p3, List.forall_mem_cons.mpr ⟨lw_p4, List.forall_mem_cons.mpr ⟨lw_p5, List.forall_mem_cons.mpr ⟨lw_p6, List.forall_mem_cons.mpr ⟨lw_p7, List.forall_mem_cons.mpr ⟨lw_p8, List.forall_mem_cons.mpr ⟨lw_p9, List.forall_mem_cons.mpr ⟨lw_p10, List.forall_mem_cons.mpr ⟨lw_p11, List.forall_mem_cons.mpr ⟨lw_p12, List.forall_mem_cons.mpr ⟨lw_p13, List.forall_mem_cons.mpr ⟨lw_p14, List.forall_mem_cons.mpr ⟨lw_p15, fun _ h => absurd h List.not_mem_nil⟩⟩⟩⟩⟩⟩⟩⟩⟩⟩⟩⟩⟩⟩⟩⟩
theorem lw_p16 : lw_okq (⟨"KeyFramesModel", "writeBit", "(II)V"⟩, 22) := ⟨⟨by decide +kernel, by decide +kernel⟩, List.mem_of_getElem? (i := 563) (by decide +kernel), List.mem_of_getElem? (i := 663) (by decide +kernel), List.mem_of_getElem? (i := 664) (by decide +kernel)⟩
theorem lw_p17 : lw_okq (⟨"KeyFramesModel", "carry", "()V"⟩, 22) := ⟨⟨by decide +kernel, by decide +kernel⟩, List.mem_of_getElem? (i := 563) (by decide +kernel), List.mem_of_getElem? (i := 669) (by decide +kernel), List.mem_of_getElem? (i := 670) (by decide +kernel)⟩
theorem lw_p18 : lw_okq (⟨"KeyFramesModel", "append", "(J)V"⟩, 22) := ⟨⟨by decide +kernel, by decide +kernel⟩, List.mem_of_getElem? (i := 563) (by decide +kernel), List.mem_of_getElem? (i := 674) (by decide +kernel), List.mem_of_getElem? (i := 675) (by decide +kernel)⟩
theorem lw_p19 : lw_okq (⟨"KeyFramesModel", "open", "()V"⟩, 22) := ⟨⟨by decide +kernel, by decide +kernel⟩, List.mem_of_getElem? (i := 563) (by decide +kernel), List.mem_of_getElem? (i := 688) (by decide +kernel), List.mem_of_getElem? (i := 689) (by decide +kernel)⟩
theorem lw_p20 : lw_okq (⟨"KeyFramesModel", "byteAt", "(I)I"⟩, 22) := ⟨⟨by decide +kernel, by decide +kernel⟩, List.mem_of_getElem? (i := 563) (by decide +kernel), List.mem_of_getElem? (i := 692) (by decide +kernel), List.mem_of_getElem? (i := 693) (by decide +kernel)⟩
theorem lw_p21 : lw_okq (⟨"KeyFramesModel", "readMany", "(II)I"⟩, 22) := ⟨⟨by decide +kernel, by decide +kernel⟩, List.mem_of_getElem? (i := 563) (by decide +kernel), List.mem_of_getElem? (i := 700) (by decide +kernel), List.mem_of_getElem? (i := 701) (by decide +kernel)⟩
theorem lw_p22 : lw_okq (⟨"KeyFramesModel", "readBit", "(I)I"⟩, 22) := ⟨⟨by decide +kernel, by decide +kernel⟩, List.mem_of_getElem? (i := 563) (by decide +kernel), List.mem_of_getElem? (i := 704) (by decide +kernel), List.mem_of_getElem? (i := 705) (by decide +kernel)⟩
theorem lw_p23 : lw_okq (⟨"KeyFramesModel", "readWay", "()I"⟩, 22) := ⟨⟨by decide +kernel, by decide +kernel⟩, List.mem_of_getElem? (i := 563) (by decide +kernel), List.mem_of_getElem? (i := 712) (by decide +kernel), List.mem_of_getElem? (i := 713) (by decide +kernel)⟩
theorem lw_p24 : lw_okq (⟨"KeyFramesModel", "readCoefficients", "(I)V"⟩, 22) := ⟨⟨by decide +kernel, by decide +kernel⟩, List.mem_of_getElem? (i := 563) (by decide +kernel), List.mem_of_getElem? (i := 716) (by decide +kernel), List.mem_of_getElem? (i := 717) (by decide +kernel)⟩
theorem lw_p25 : lw_okq (⟨"KeyFramesModel", "hasSome", "(I)Z"⟩, 22) := ⟨⟨by decide +kernel, by decide +kernel⟩, List.mem_of_getElem? (i := 563) (by decide +kernel), List.mem_of_getElem? (i := 720) (by decide +kernel), List.mem_of_getElem? (i := 721) (by decide +kernel)⟩
theorem lw_p26 : lw_okq (⟨"KeyFramesModel", "tell", "(II)I"⟩, 22) := ⟨⟨by decide +kernel, by decide +kernel⟩, List.mem_of_getElem? (i := 563) (by decide +kernel), List.mem_of_getElem? (i := 727) (by decide +kernel), List.mem_of_getElem? (i := 728) (by decide +kernel)⟩
theorem lw_p27 : lw_okq (⟨"KeyFramesModel", "sizeOf", "(I)I"⟩, 22) := ⟨⟨by decide +kernel, by decide +kernel⟩, List.mem_of_getElem? (i := 563) (by decide +kernel), List.mem_of_getElem? (i := 731) (by decide +kernel), List.mem_of_getElem? (i := 732) (by decide +kernel)⟩
theorem lw_p28 : lw_okq (⟨"KeyFramesModel", "large", "(I)I"⟩, 22) := ⟨⟨by decide +kernel, by decide +kernel⟩, List.mem_of_getElem? (i := 563) (by decide +kernel), List.mem_of_getElem? (i := 735) (by decide +kernel), List.mem_of_getElem? (i := 736) (by decide +kernel)⟩
theorem lw_p29 : lw_okq (⟨"KeyFramesModel", "added", "(IJI)I"⟩, 22) := ⟨⟨by decide +kernel, by decide +kernel⟩, List.mem_of_getElem? (i := 563) (by decide +kernel), List.mem_of_getElem? (i := 740) (by decide +kernel), List.mem_of_getElem? (i := 741) (by decide +kernel)⟩
theorem lw_p30 : lw_okq (⟨"KeyFramesModel", "build", "(I)V"⟩, 22) := ⟨⟨by decide +kernel, by decide +kernel⟩, List.mem_of_getElem? (i := 563) (by decide +kernel), List.mem_of_getElem? (i := 751) (by decide +kernel), List.mem_of_getElem? (i := 752) (by decide +kernel)⟩
theorem lw_p31 : lw_okq (⟨"KeyFramesModel", "transform", "(I)V"⟩, 22) := ⟨⟨by decide +kernel, by decide +kernel⟩, List.mem_of_getElem? (i := 563) (by decide +kernel), List.mem_of_getElem? (i := 755) (by decide +kernel), List.mem_of_getElem? (i := 756) (by decide +kernel)⟩
def lw_privs_2 : List (MethodName × Nat) := [(⟨"KeyFramesModel", "writeBit", "(II)V"⟩, 22), (⟨"KeyFramesModel", "carry", "()V"⟩, 22), (⟨"KeyFramesModel", "append", "(J)V"⟩, 22), (⟨"KeyFramesModel", "open", "()V"⟩, 22), (⟨"KeyFramesModel", "byteAt", "(I)I"⟩, 22), (⟨"KeyFramesModel", "readMany", "(II)I"⟩, 22), (⟨"KeyFramesModel", "readBit", "(I)I"⟩, 22), (⟨"KeyFramesModel", "readWay", "()I"⟩, 22), (⟨"KeyFramesModel", "readCoefficients", "(I)V"⟩, 22), (⟨"KeyFramesModel", "hasSome", "(I)Z"⟩, 22), (⟨"KeyFramesModel", "tell", "(II)I"⟩, 22), (⟨"KeyFramesModel", "sizeOf", "(I)I"⟩, 22), (⟨"KeyFramesModel", "large", "(I)I"⟩, 22), (⟨"KeyFramesModel", "added", "(IJI)I"⟩, 22), (⟨"KeyFramesModel", "build", "(I)V"⟩, 22), (⟨"KeyFramesModel", "transform", "(I)V"⟩, 22)]
theorem lw_r2 : ∀ q ∈ lw_privs_2, lw_okq q := List.forall_mem_cons.mpr ⟨lw_p16, List.forall_mem_cons.mpr ⟨lw_p17, List.forall_mem_cons.mpr ⟨lw_p18, List.forall_mem_cons.mpr ⟨lw_p19, List.forall_mem_cons.mpr ⟨lw_p20, List.forall_mem_cons.mpr ⟨lw_p21, List.forall_mem_cons.mpr ⟨lw_p22, List.forall_mem_cons.mpr ⟨lw_p23, List.forall_mem_cons.mpr ⟨lw_p24, List.forall_mem_cons.mpr ⟨lw_p25, List.forall_mem_cons.mpr ⟨lw_p26, List.forall_mem_cons.mpr ⟨lw_p27, List.forall_mem_cons.mpr ⟨lw_p28, List.forall_mem_cons.mpr ⟨lw_p29, List.forall_mem_cons.mpr ⟨lw_p30, List.forall_mem_cons.mpr ⟨lw_p31, fun _ h => absurd h List.not_mem_nil⟩⟩⟩⟩⟩⟩⟩⟩⟩⟩⟩⟩⟩⟩⟩⟩
theorem lw_p32 : lw_okq (⟨"KeyFramesModel", "turn", "(II)V"⟩, 22) := ⟨⟨by decide +kernel, by decide +kernel⟩, List.mem_of_getElem? (i := 563) (by decide +kernel), List.mem_of_getElem? (i := 762) (by decide +kernel), List.mem_of_getElem? (i := 763) (by decide +kernel)⟩
theorem lw_p33 : lw_okq (⟨"KeyFramesModel", "guess", "(IIIII)I"⟩, 22) := ⟨⟨by decide +kernel, by decide +kernel⟩, List.mem_of_getElem? (i := 563) (by decide +kernel), List.mem_of_getElem? (i := 775) (by decide +kernel), List.mem_of_getElem? (i := 776) (by decide +kernel)⟩
theorem lw_p34 : lw_okq (⟨"KeyFramesModel", "at", "(II)I"⟩, 22) := ⟨⟨by decide +kernel, by decide +kernel⟩, List.mem_of_getElem? (i := 563) (by decide +kernel), List.mem_of_getElem? (i := 779) (by decide +kernel), List.mem_of_getElem? (i := 780) (by decide +kernel)⟩
theorem lw_p35 : lw_okq (⟨"KeyFramesModel", "filter", "()V"⟩, 22) := ⟨⟨by decide +kernel, by decide +kernel⟩, List.mem_of_getElem? (i := 563) (by decide +kernel), List.mem_of_getElem? (i := 786) (by decide +kernel), List.mem_of_getElem? (i := 787) (by decide +kernel)⟩
theorem lw_p36 : lw_okq (⟨"KeyFramesModel", "smooth", "(II)V"⟩, 22) := ⟨⟨by decide +kernel, by decide +kernel⟩, List.mem_of_getElem? (i := 563) (by decide +kernel), List.mem_of_getElem? (i := 790) (by decide +kernel), List.mem_of_getElem? (i := 791) (by decide +kernel)⟩
def lw_privs_3 : List (MethodName × Nat) := [(⟨"KeyFramesModel", "turn", "(II)V"⟩, 22), (⟨"KeyFramesModel", "guess", "(IIIII)I"⟩, 22), (⟨"KeyFramesModel", "at", "(II)I"⟩, 22), (⟨"KeyFramesModel", "filter", "()V"⟩, 22), (⟨"KeyFramesModel", "smooth", "(II)V"⟩, 22)]
theorem lw_r3 : ∀ q ∈ lw_privs_3, lw_okq q := List.forall_mem_cons.mpr ⟨lw_p32, List.forall_mem_cons.mpr ⟨lw_p33, List.forall_mem_cons.mpr ⟨lw_p34, List.forall_mem_cons.mpr ⟨lw_p35, List.forall_mem_cons.mpr ⟨lw_p36, fun _ h => absurd h List.not_mem_nil⟩⟩⟩⟩⟩
def lw_privs : List (MethodName × Nat) := lw_privs_1 ++ (lw_privs_2 ++ (lw_privs_3))
def lw_tbl : List Cond := k2_sels lw_privs ++ tables_1
theorem lw_privs_ok : ∀ q ∈ lw_privs, lw_okq q := by
  show ∀ q ∈ lw_privs_1 ++ (lw_privs_2 ++ (lw_privs_3)), lw_okq q
  exact List.forall_mem_append.mpr ⟨lw_r1, List.forall_mem_append.mpr ⟨lw_r2, lw_r3⟩⟩
end
section
def RX0 : String := "KeyFrames$BitReader"
def TX0 : u_T := fun k => match k with
  | 0 => ("KeyFrames$BitReader", "octets", "LKeyFrames$Octets;", true)
  | 1 => ("KeyFrames$BitReader", "value", "I", false)
  | 2 => ("KeyFrames$BitReader", "range", "I", false)
  | 3 => ("KeyFrames$BitReader", "shifts", "I", false)
  | _ => ("KeyFrames$BitReader", "next", "I", false)
def tyX0 : Nat → FieldType := fun k => match k with
  | 0 => .object "KeyFrames$Octets"
  | 1 => .int
  | 2 => .int
  | 3 => .int
  | _ => .int
theorem nmX0 : ∀ a, a < 5 → ∀ b, b < 5 → a ≠ b → (TX0 a).2.1 ≠ (TX0 b).2.1 := by decide +kernel
theorem tyX0_ok : ∀ k, k < 5 → parseFieldDescriptor (TX0 k).2.2.1 = some (tyX0 k) := by decide +kernel
abbrev cX0_init : ByteArray := prog_2_method_1_code
def yX0_init : MethodName := ⟨RX0, "<init>", "(LKeyFrames$Octets;)V"⟩
abbrev cX0_start : ByteArray := prog_2_method_2_code
def yX0_start : MethodName := ⟨RX0, "start", "()V"⟩
abbrev cX0_readBit : ByteArray := prog_2_method_3_code
def yX0_readBit : MethodName := ⟨RX0, "readBit", "(I)I"⟩
abbrev cX0_readBits : ByteArray := prog_2_method_4_code
def yX0_readBits : MethodName := ⟨RX0, "readBits", "(II)I"⟩
abbrev cX0_readNumber : ByteArray := prog_2_method_5_code
def yX0_readNumber : MethodName := ⟨RX0, "readNumber", "(I)I"⟩
abbrev cX0_octetsBeyond : ByteArray := prog_2_method_6_code
def yX0_octetsBeyond : MethodName := ⟨RX0, "octetsBeyond", "()I"⟩
def RX1 : String := "KeyFrames$BitWriter"
def TX1 : u_T := fun k => match k with
  | 0 => ("KeyFrames$BitWriter", "octets", "LKeyFrames$Octets;", true)
  | 1 => ("KeyFrames$BitWriter", "bottom", "I", false)
  | 2 => ("KeyFrames$BitWriter", "range", "I", false)
  | _ => ("KeyFrames$BitWriter", "shiftsLeft", "I", false)
def tyX1 : Nat → FieldType := fun k => match k with
  | 0 => .object "KeyFrames$Octets"
  | 1 => .int
  | 2 => .int
  | _ => .int
theorem nmX1 : ∀ a, a < 4 → ∀ b, b < 4 → a ≠ b → (TX1 a).2.1 ≠ (TX1 b).2.1 := by decide +kernel
theorem tyX1_ok : ∀ k, k < 4 → parseFieldDescriptor (TX1 k).2.2.1 = some (tyX1 k) := by decide +kernel
abbrev cX1_init : ByteArray := prog_3_method_1_code
def yX1_init : MethodName := ⟨RX1, "<init>", "(LKeyFrames$Octets;)V"⟩
abbrev cX1_start : ByteArray := prog_3_method_2_code
def yX1_start : MethodName := ⟨RX1, "start", "()V"⟩
abbrev cX1_writeBit : ByteArray := prog_3_method_3_code
def yX1_writeBit : MethodName := ⟨RX1, "writeBit", "(II)V"⟩
abbrev cX1_shiftBottom : ByteArray := prog_3_method_4_code
def yX1_shiftBottom : MethodName := ⟨RX1, "shiftBottom", "()V"⟩
abbrev cX1_finish : ByteArray := prog_3_method_5_code
def yX1_finish : MethodName := ⟨RX1, "finish", "()V"⟩
def RX2 : String := "KeyFrames$CoefficientTree"
def TX2 : u_T := fun k => match k with
  | _ => ("KeyFrames$CoefficientTree", "probabilities", "[I", true)
def tyX2 : Nat → FieldType := fun k => match k with
  | _ => .array .int
theorem nmX2 : ∀ a, a < 1 → ∀ b, b < 1 → a ≠ b → (TX2 a).2.1 ≠ (TX2 b).2.1 := by decide +kernel
theorem tyX2_ok : ∀ k, k < 1 → parseFieldDescriptor (TX2 k).2.2.1 = some (tyX2 k) := by decide +kernel
abbrev cX2_init : ByteArray := prog_4_method_1_code
def yX2_init : MethodName := ⟨RX2, "<init>", "()V"⟩
abbrev cX2_readProbabilities : ByteArray := prog_4_method_2_code
def yX2_readProbabilities : MethodName := ⟨RX2, "readProbabilities", "(LKeyFrames$BitReader;)I"⟩
abbrev cX2_readBlock : ByteArray := prog_4_method_3_code
def yX2_readBlock : MethodName := ⟨RX2, "readBlock", "(LKeyFrames$BitReader;I[II)I"⟩
abbrev cX2_readSize : ByteArray := prog_4_method_4_code
def yX2_readSize : MethodName := ⟨RX2, "readSize", "(LKeyFrames$BitReader;I)I"⟩
abbrev cX2_readSizeClass : ByteArray := prog_4_method_5_code
def yX2_readSizeClass : MethodName := ⟨RX2, "readSizeClass", "(LKeyFrames$BitReader;I)I"⟩
abbrev cX2_readLargeSize : ByteArray := prog_4_method_6_code
def yX2_readLargeSize : MethodName := ⟨RX2, "readLargeSize", "(LKeyFrames$BitReader;I)I"⟩
def RX3 : String := "KeyFrames$Octets"
def TX3 : u_T := fun k => match k with
  | 0 => ("KeyFrames$Octets", "held", "[I", true)
  | _ => ("KeyFrames$Octets", "size", "I", false)
def tyX3 : Nat → FieldType := fun k => match k with
  | 0 => .array .int
  | _ => .int
theorem nmX3 : ∀ a, a < 2 → ∀ b, b < 2 → a ≠ b → (TX3 a).2.1 ≠ (TX3 b).2.1 := by decide +kernel
theorem tyX3_ok : ∀ k, k < 2 → parseFieldDescriptor (TX3 k).2.2.1 = some (tyX3 k) := by decide +kernel
abbrev cX3_init : ByteArray := prog_5_method_1_code
def yX3_init : MethodName := ⟨RX3, "<init>", "()V"⟩
abbrev cX3_size : ByteArray := prog_5_method_2_code
def yX3_size : MethodName := ⟨RX3, "size", "()I"⟩
abbrev cX3_clear : ByteArray := prog_5_method_3_code
def yX3_clear : MethodName := ⟨RX3, "clear", "()V"⟩
abbrev cX3_append : ByteArray := prog_5_method_4_code
def yX3_append : MethodName := ⟨RX3, "append", "(I)V"⟩
abbrev cX3_at : ByteArray := prog_5_method_5_code
def yX3_at : MethodName := ⟨RX3, "at", "(I)I"⟩
abbrev cX3_addOneToLast : ByteArray := prog_5_method_6_code
def yX3_addOneToLast : MethodName := ⟨RX3, "addOneToLast", "()V"⟩
def RX4 : String := "KeyFrames$Picture"
def TX4 : u_T := fun k => match k with
  | 0 => ("KeyFrames$Picture", "tree", "LKeyFrames$CoefficientTree;", true)
  | 1 => ("KeyFrames$Picture", "transform", "LKeyFrames$Transform;", true)
  | 2 => ("KeyFrames$Picture", "plane", "LKeyFrames$Plane;", true)
  | 3 => ("KeyFrames$Picture", "ways", "[I", true)
  | 4 => ("KeyFrames$Picture", "coefficientsRead", "[I", true)
  | 5 => ("KeyFrames$Picture", "coefficients", "[I", true)
  | 6 => ("KeyFrames$Picture", "hasSome", "[Z", true)
  | 7 => ("KeyFrames$Picture", "columns", "I", false)
  | 8 => ("KeyFrames$Picture", "rows", "I", false)
  | 9 => ("KeyFrames$Picture", "q", "I", false)
  | 10 => ("KeyFrames$Picture", "level", "I", false)
  | 11 => ("KeyFrames$Picture", "toldAnew", "I", false)
  | 12 => ("KeyFrames$Picture", "octetsBeyond", "I", false)
  | _ => ("KeyFrames$Picture", "foursChanged", "I", false)
def tyX4 : Nat → FieldType := fun k => match k with
  | 0 => .object "KeyFrames$CoefficientTree"
  | 1 => .object "KeyFrames$Transform"
  | 2 => .object "KeyFrames$Plane"
  | 3 => .array .int
  | 4 => .array .int
  | 5 => .array .int
  | 6 => .array .boolean
  | 7 => .int
  | 8 => .int
  | 9 => .int
  | 10 => .int
  | 11 => .int
  | 12 => .int
  | _ => .int
theorem nmX4 : ∀ a, a < 14 → ∀ b, b < 14 → a ≠ b → (TX4 a).2.1 ≠ (TX4 b).2.1 := by decide +kernel
theorem tyX4_ok : ∀ k, k < 14 → parseFieldDescriptor (TX4 k).2.2.1 = some (tyX4 k) := by decide +kernel
abbrev cX4_init : ByteArray := prog_6_method_1_code
def yX4_init : MethodName := ⟨RX4, "<init>", "()V"⟩
abbrev cX4_readFrom : ByteArray := prog_6_method_2_code
def yX4_readFrom : MethodName := ⟨RX4, "readFrom", "(LKeyFrames$BitReader;)V"⟩
abbrev cX4_readWay : ByteArray := prog_6_method_3_code
def yX4_readWay : MethodName := ⟨RX4, "readWay", "(LKeyFrames$BitReader;)I"⟩
abbrev cX4_contextOf : ByteArray := prog_6_method_4_code
def yX4_contextOf : MethodName := ⟨RX4, "contextOf", "(II)I"⟩
abbrev cX4_hasSomeNotZero : ByteArray := prog_6_method_5_code
def yX4_hasSomeNotZero : MethodName := ⟨RX4, "hasSomeNotZero", "(I)Z"⟩
abbrev cX4_rebuild : ByteArray := prog_6_method_6_code
def yX4_rebuild : MethodName := ⟨RX4, "rebuild", "(III)V"⟩
abbrev cX4_blocks : ByteArray := prog_6_method_7_code
def yX4_blocks : MethodName := ⟨RX4, "blocks", "()I"⟩
abbrev cX4_hasBlock : ByteArray := prog_6_method_8_code
def yX4_hasBlock : MethodName := ⟨RX4, "hasBlock", "(I)Z"⟩
abbrev cX4_sampleAt : ByteArray := prog_6_method_9_code
def yX4_sampleAt : MethodName := ⟨RX4, "sampleAt", "(II)I"⟩
abbrev cX4_wayOf : ByteArray := prog_6_method_10_code
def yX4_wayOf : MethodName := ⟨RX4, "wayOf", "(I)I"⟩
abbrev cX4_coefficientsReadOf : ByteArray := prog_6_method_11_code
def yX4_coefficientsReadOf : MethodName := ⟨RX4, "coefficientsReadOf", "(I)I"⟩
abbrev cX4_coefficientOf : ByteArray := prog_6_method_12_code
def yX4_coefficientOf : MethodName := ⟨RX4, "coefficientOf", "(II)I"⟩
def RX5 : String := "KeyFrames$Plane"
def TX5 : u_T := fun k => match k with
  | _ => ("KeyFrames$Plane", "samples", "[I", true)
def tyX5 : Nat → FieldType := fun k => match k with
  | _ => .array .int
theorem nmX5 : ∀ a, a < 1 → ∀ b, b < 1 → a ≠ b → (TX5 a).2.1 ≠ (TX5 b).2.1 := by decide +kernel
theorem tyX5_ok : ∀ k, k < 1 → parseFieldDescriptor (TX5 k).2.2.1 = some (tyX5 k) := by decide +kernel
abbrev cX5_init : ByteArray := prog_7_method_1_code
def yX5_init : MethodName := ⟨RX5, "<init>", "()V"⟩
abbrev cX5_at : ByteArray := prog_7_method_2_code
def yX5_at : MethodName := ⟨RX5, "at", "(II)I"⟩
abbrev cX5_above : ByteArray := prog_7_method_3_code
def yX5_above : MethodName := ⟨RX5, "above", "(II)I"⟩
abbrev cX5_leftOf : ByteArray := prog_7_method_4_code
def yX5_leftOf : MethodName := ⟨RX5, "leftOf", "(II)I"⟩
abbrev cX5_corner : ByteArray := prog_7_method_5_code
def yX5_corner : MethodName := ⟨RX5, "corner", "(II)I"⟩
abbrev cX5_rebuild : ByteArray := prog_7_method_6_code
def yX5_rebuild : MethodName := ⟨RX5, "rebuild", "(III[J)V"⟩
abbrev cX5_evenOf : ByteArray := prog_7_method_7_code
def yX5_evenOf : MethodName := ⟨RX5, "evenOf", "(II)I"⟩
abbrev cX5_filterAll : ByteArray := prog_7_method_8_code
def yX5_filterAll : MethodName := ⟨RX5, "filterAll", "(III)I"⟩
abbrev cX5_filterEdge : ByteArray := prog_7_method_9_code
def yX5_filterEdge : MethodName := ⟨RX5, "filterEdge", "(IIII)I"⟩
abbrev cX5_filterFour : ByteArray := prog_7_method_10_code
def yX5_filterFour : MethodName := ⟨RX5, "filterFour", "(III)Z"⟩
abbrev cX5_small : ByteArray := prog_7_method_11_code
def yX5_small : MethodName := ⟨RX5, "small", "(I)I"⟩
def RX6 : String := "KeyFrames$Transform"
def TX6 : u_T := fun k => match k with
  | _ => ("KeyFrames$Transform", "grid", "[J", true)
def tyX6 : Nat → FieldType := fun k => match k with
  | _ => .array .long
theorem nmX6 : ∀ a, a < 1 → ∀ b, b < 1 → a ≠ b → (TX6 a).2.1 ≠ (TX6 b).2.1 := by decide +kernel
theorem tyX6_ok : ∀ k, k < 1 → parseFieldDescriptor (TX6 k).2.2.1 = some (tyX6 k) := by decide +kernel
abbrev cX6_init : ByteArray := prog_8_method_1_code
def yX6_init : MethodName := ⟨RX6, "<init>", "()V"⟩
abbrev cX6_layOut : ByteArray := prog_8_method_2_code
def yX6_layOut : MethodName := ⟨RX6, "layOut", "([III)V"⟩
abbrev cX6_turnBack : ByteArray := prog_8_method_3_code
def yX6_turnBack : MethodName := ⟨RX6, "turnBack", "()V"⟩
abbrev cX6_turnFour : ByteArray := prog_8_method_4_code
def yX6_turnFour : MethodName := ⟨RX6, "turnFour", "(II)V"⟩
abbrev cX6_timesM : ByteArray := prog_8_method_5_code
def yX6_timesM : MethodName := ⟨RX6, "timesM", "(J)J"⟩
abbrev cX6_timesH : ByteArray := prog_8_method_6_code
def yX6_timesH : MethodName := ⟨RX6, "timesH", "(J)J"⟩
def RX7 : String := "KeyFrames"
def TX7 : u_T := fun k => match k with
  | 0 => ("KeyFrames", "octets", "LKeyFrames$Octets;", true)
  | 1 => ("KeyFrames", "writer", "LKeyFrames$BitWriter;", true)
  | 2 => ("KeyFrames", "reader", "LKeyFrames$BitReader;", true)
  | 3 => ("KeyFrames", "picture", "LKeyFrames$Picture;", true)
  | _ => ("KeyFrames", "begun", "I", false)
def tyX7 : Nat → FieldType := fun k => match k with
  | 0 => .object "KeyFrames$Octets"
  | 1 => .object "KeyFrames$BitWriter"
  | 2 => .object "KeyFrames$BitReader"
  | 3 => .object "KeyFrames$Picture"
  | _ => .int
theorem nmX7 : ∀ a, a < 5 → ∀ b, b < 5 → a ≠ b → (TX7 a).2.1 ≠ (TX7 b).2.1 := by decide +kernel
theorem tyX7_ok : ∀ k, k < 5 → parseFieldDescriptor (TX7 k).2.2.1 = some (tyX7 k) := by decide +kernel
abbrev cX7_init : ByteArray := prog_1_method_1_code
def yX7_init : MethodName := ⟨RX7, "<init>", "()V"⟩
abbrev cX7_feed : ByteArray := prog_1_method_2_code
def yX7_feed : MethodName := ⟨RX7, "feed", "(IIIII)I"⟩
abbrev cX7_erase : ByteArray := prog_1_method_3_code
def yX7_erase : MethodName := ⟨RX7, "erase", "()I"⟩
abbrev cX7_write : ByteArray := prog_1_method_4_code
def yX7_write : MethodName := ⟨RX7, "write", "()V"⟩
abbrev cX7_put : ByteArray := prog_1_method_5_code
def yX7_put : MethodName := ⟨RX7, "put", "(III)I"⟩
abbrev cX7_end : ByteArray := prog_1_method_6_code
def yX7_end : MethodName := ⟨RX7, "end", "()I"⟩
abbrev cX7_read : ByteArray := prog_1_method_7_code
def yX7_read : MethodName := ⟨RX7, "read", "()V"⟩
abbrev cX7_get : ByteArray := prog_1_method_8_code
def yX7_get : MethodName := ⟨RX7, "get", "(II)I"⟩
abbrev cX7_decode : ByteArray := prog_1_method_9_code
def yX7_decode : MethodName := ⟨RX7, "decode", "()I"⟩
abbrev cX7_sample : ByteArray := prog_1_method_10_code
def yX7_sample : MethodName := ⟨RX7, "sample", "(II)I"⟩
abbrev cX7_block : ByteArray := prog_1_method_11_code
def yX7_block : MethodName := ⟨RX7, "block", "(II)I"⟩
abbrev cX7_count : ByteArray := prog_1_method_12_code
def yX7_count : MethodName := ⟨RX7, "count", "(I)I"⟩
abbrev cX7_octet : ByteArray := prog_1_method_13_code
def yX7_octet : MethodName := ⟨RX7, "octet", "(I)I"⟩
abbrev cX7_checkBits : ByteArray := prog_1_method_14_code
def yX7_checkBits : MethodName := ⟨RX7, "checkBits", "(II)V"⟩
abbrev cX7_splitOf : ByteArray := prog_1_method_15_code
def yX7_splitOf : MethodName := ⟨RX7, "splitOf", "(II)I"⟩
abbrev cX7_within : ByteArray := prog_1_method_16_code
def yX7_within : MethodName := ⟨RX7, "within", "(JII)I"⟩
def RX8 : String := "KeyFramesModel"
def TX8 : u_T := fun k => match k with
  | 0 => ("KeyFramesModel", "refusal", "I", false)
  | 1 => ("KeyFramesModel", "bytes", "[I", true)
  | 2 => ("KeyFramesModel", "size", "I", false)
  | 3 => ("KeyFramesModel", "begun", "I", false)
  | 4 => ("KeyFramesModel", "bottom", "J", false)
  | 5 => ("KeyFramesModel", "range", "I", false)
  | 6 => ("KeyFramesModel", "count", "I", false)
  | 7 => ("KeyFramesModel", "value", "I", false)
  | 8 => ("KeyFramesModel", "place", "I", false)
  | 9 => ("KeyFramesModel", "columns", "I", false)
  | 10 => ("KeyFramesModel", "rows", "I", false)
  | 11 => ("KeyFramesModel", "quantum", "I", false)
  | 12 => ("KeyFramesModel", "level", "I", false)
  | 13 => ("KeyFramesModel", "told", "I", false)
  | 14 => ("KeyFramesModel", "beyond", "I", false)
  | 15 => ("KeyFramesModel", "changed", "I", false)
  | 16 => ("KeyFramesModel", "probability", "[I", true)
  | 17 => ("KeyFramesModel", "way", "[I", true)
  | 18 => ("KeyFramesModel", "many", "[I", true)
  | 19 => ("KeyFramesModel", "coefficient", "[I", true)
  | 20 => ("KeyFramesModel", "sample", "[I", true)
  | _ => ("KeyFramesModel", "row", "[J", true)
def tyX8 : Nat → FieldType := fun k => match k with
  | 0 => .int
  | 1 => .array .int
  | 2 => .int
  | 3 => .int
  | 4 => .long
  | 5 => .int
  | 6 => .int
  | 7 => .int
  | 8 => .int
  | 9 => .int
  | 10 => .int
  | 11 => .int
  | 12 => .int
  | 13 => .int
  | 14 => .int
  | 15 => .int
  | 16 => .array .int
  | 17 => .array .int
  | 18 => .array .int
  | 19 => .array .int
  | 20 => .array .int
  | _ => .array .long
theorem nmX8 : ∀ a, a < 22 → ∀ b, b < 22 → a ≠ b → (TX8 a).2.1 ≠ (TX8 b).2.1 := by decide +kernel
theorem tyX8_ok : ∀ k, k < 22 → parseFieldDescriptor (TX8 k).2.2.1 = some (tyX8 k) := by decide +kernel
abbrev cX8_init : ByteArray := prog_10_method_1_code
def yX8_init : MethodName := ⟨RX8, "<init>", "()V"⟩
abbrev cX8_refused : ByteArray := prog_10_method_3_code
def yX8_refused : MethodName := ⟨RX8, "refused", "(I)Z"⟩
abbrev cX8_isIn : ByteArray := prog_10_method_4_code
def yX8_isIn : MethodName := ⟨RX8, "isIn", "(III)Z"⟩
abbrev cX8_feed : ByteArray := prog_10_method_5_code
def yX8_feed : MethodName := ⟨RX8, "feed", "(IIIII)I"⟩
abbrev cX8_erase : ByteArray := prog_10_method_6_code
def yX8_erase : MethodName := ⟨RX8, "erase", "()I"⟩
abbrev cX8_octet : ByteArray := prog_10_method_7_code
def yX8_octet : MethodName := ⟨RX8, "octet", "(I)I"⟩
abbrev cX8_write : ByteArray := prog_10_method_8_code
def yX8_write : MethodName := ⟨RX8, "write", "()V"⟩
abbrev cX8_carry : ByteArray := prog_10_method_9_code
def yX8_carry : MethodName := ⟨RX8, "carry", "()V"⟩
abbrev cX8_append : ByteArray := prog_10_method_10_code
def yX8_append : MethodName := ⟨RX8, "append", "(J)V"⟩
abbrev cX8_writeBit : ByteArray := prog_10_method_11_code
def yX8_writeBit : MethodName := ⟨RX8, "writeBit", "(II)V"⟩
abbrev cX8_put : ByteArray := prog_10_method_12_code
def yX8_put : MethodName := ⟨RX8, "put", "(III)I"⟩
abbrev cX8_end : ByteArray := prog_10_method_13_code
def yX8_end : MethodName := ⟨RX8, "end", "()I"⟩
abbrev cX8_byteAt : ByteArray := prog_10_method_14_code
def yX8_byteAt : MethodName := ⟨RX8, "byteAt", "(I)I"⟩
abbrev cX8_open : ByteArray := prog_10_method_15_code
def yX8_open : MethodName := ⟨RX8, "open", "()V"⟩
abbrev cX8_read : ByteArray := prog_10_method_16_code
def yX8_read : MethodName := ⟨RX8, "read", "()V"⟩
abbrev cX8_readBit : ByteArray := prog_10_method_17_code
def yX8_readBit : MethodName := ⟨RX8, "readBit", "(I)I"⟩
abbrev cX8_readMany : ByteArray := prog_10_method_18_code
def yX8_readMany : MethodName := ⟨RX8, "readMany", "(II)I"⟩
abbrev cX8_get : ByteArray := prog_10_method_19_code
def yX8_get : MethodName := ⟨RX8, "get", "(II)I"⟩
abbrev cX8_band : ByteArray := prog_10_method_20_code
def yX8_band : MethodName := ⟨RX8, "band", "(I)I"⟩
abbrev cX8_spot : ByteArray := prog_10_method_21_code
def yX8_spot : MethodName := ⟨RX8, "spot", "(I)I"⟩
abbrev cX8_last : ByteArray := prog_10_method_22_code
def yX8_last : MethodName := ⟨RX8, "last", "(I)I"⟩
abbrev cX8_added : ByteArray := prog_10_method_23_code
def yX8_added : MethodName := ⟨RX8, "added", "(IJI)I"⟩
abbrev cX8_tell : ByteArray := prog_10_method_24_code
def yX8_tell : MethodName := ⟨RX8, "tell", "(II)I"⟩
abbrev cX8_large : ByteArray := prog_10_method_25_code
def yX8_large : MethodName := ⟨RX8, "large", "(I)I"⟩
abbrev cX8_sizeOf : ByteArray := prog_10_method_26_code
def yX8_sizeOf : MethodName := ⟨RX8, "sizeOf", "(I)I"⟩
abbrev cX8_hasSome : ByteArray := prog_10_method_27_code
def yX8_hasSome : MethodName := ⟨RX8, "hasSome", "(I)Z"⟩
abbrev cX8_readCoefficients : ByteArray := prog_10_method_28_code
def yX8_readCoefficients : MethodName := ⟨RX8, "readCoefficients", "(I)V"⟩
abbrev cX8_whole : ByteArray := prog_10_method_29_code
def yX8_whole : MethodName := ⟨RX8, "whole", "(J)J"⟩
abbrev cX8_half : ByteArray := prog_10_method_30_code
def yX8_half : MethodName := ⟨RX8, "half", "(J)J"⟩
abbrev cX8_turn : ByteArray := prog_10_method_31_code
def yX8_turn : MethodName := ⟨RX8, "turn", "(II)V"⟩
abbrev cX8_transform : ByteArray := prog_10_method_32_code
def yX8_transform : MethodName := ⟨RX8, "transform", "(I)V"⟩
abbrev cX8_at : ByteArray := prog_10_method_33_code
def yX8_at : MethodName := ⟨RX8, "at", "(II)I"⟩
abbrev cX8_byteOf : ByteArray := prog_10_method_34_code
def yX8_byteOf : MethodName := ⟨RX8, "byteOf", "(J)I"⟩
abbrev cX8_guess : ByteArray := prog_10_method_35_code
def yX8_guess : MethodName := ⟨RX8, "guess", "(IIIII)I"⟩
abbrev cX8_build : ByteArray := prog_10_method_36_code
def yX8_build : MethodName := ⟨RX8, "build", "(I)V"⟩
abbrev cX8_limit : ByteArray := prog_10_method_37_code
def yX8_limit : MethodName := ⟨RX8, "limit", "(I)I"⟩
abbrev cX8_apart : ByteArray := prog_10_method_38_code
def yX8_apart : MethodName := ⟨RX8, "apart", "(II)I"⟩
abbrev cX8_smooth : ByteArray := prog_10_method_39_code
def yX8_smooth : MethodName := ⟨RX8, "smooth", "(II)V"⟩
abbrev cX8_filter : ByteArray := prog_10_method_40_code
def yX8_filter : MethodName := ⟨RX8, "filter", "()V"⟩
abbrev cX8_readWay : ByteArray := prog_10_method_41_code
def yX8_readWay : MethodName := ⟨RX8, "readWay", "()I"⟩
abbrev cX8_decode : ByteArray := prog_10_method_42_code
def yX8_decode : MethodName := ⟨RX8, "decode", "()I"⟩
abbrev cX8_sample : ByteArray := prog_10_method_43_code
def yX8_sample : MethodName := ⟨RX8, "sample", "(II)I"⟩
abbrev cX8_block : ByteArray := prog_10_method_44_code
def yX8_block : MethodName := ⟨RX8, "block", "(II)I"⟩
abbrev cX8_count : ByteArray := prog_10_method_45_code
def yX8_count : MethodName := ⟨RX8, "count", "(I)I"⟩
def RL : String := "KeyFramesLaw"
abbrev cL_feed : ByteArray := method_3_code
def yL_feed : MethodName := ⟨RL, "feed", "(LKeyFrames;IIIII[J)I"⟩
abbrev cL_put : ByteArray := method_4_code
def yL_put : MethodName := ⟨RL, "put", "(LKeyFrames;III[J)I"⟩
abbrev cL_end : ByteArray := method_5_code
def yL_end : MethodName := ⟨RL, "end", "(LKeyFrames;[J)I"⟩
abbrev cL_get : ByteArray := method_6_code
def yL_get : MethodName := ⟨RL, "get", "(LKeyFrames;II[J)I"⟩
abbrev cL_block : ByteArray := method_7_code
def yL_block : MethodName := ⟨RL, "block", "(LKeyFrames;II[J)I"⟩
abbrev cL_count : ByteArray := method_8_code
def yL_count : MethodName := ⟨RL, "count", "(LKeyFrames;I[J)I"⟩
abbrev cL_law : ByteArray := code
def yL_law : MethodName := ⟨RL, "law", "([I)Z"⟩
abbrev vwCl : List vw_C := [(RX0, TX0, 5), (RX1, TX1, 4), (RX2, TX2, 1), (RX3, TX3, 2), (RX4, TX4, 14), (RX5, TX5, 1), (RX6, TX6, 1), (RX7, TX7, 5), (RX8, TX8, 22)]
end
section
theorem dX0_init_0 : decode cX0_init 0 = .ok (.aload_n 0, 1) := by decide +kernel
theorem dX0_init_1 : decode cX0_init 1 = .ok (.invokespecial 1, 3) := by decide +kernel
theorem dX0_init_4 : decode cX0_init 4 = .ok (.aload_n 0, 1) := by decide +kernel
theorem dX0_init_5 : decode cX0_init 5 = .ok (.aload_n 1, 1) := by decide +kernel
theorem dX0_init_6 : decode cX0_init 6 = .ok (.putfield 7, 3) := by decide +kernel
theorem dX0_init_9 : decode cX0_init 9 = .ok (.aload_n 0, 1) := by decide +kernel
theorem dX0_init_10 : decode cX0_init 10 = .ok (.iconst 0, 1) := by decide +kernel
theorem dX0_init_11 : decode cX0_init 11 = .ok (.putfield 13, 3) := by decide +kernel
theorem dX0_init_14 : decode cX0_init 14 = .ok (.aload_n 0, 1) := by decide +kernel
theorem dX0_init_15 : decode cX0_init 15 = .ok (.sipush 255, 3) := by decide +kernel
theorem dX0_init_18 : decode cX0_init 18 = .ok (.putfield 17, 3) := by decide +kernel
theorem dX0_init_21 : decode cX0_init 21 = .ok (.aload_n 0, 1) := by decide +kernel
theorem dX0_init_22 : decode cX0_init 22 = .ok (.iconst 0, 1) := by decide +kernel
theorem dX0_init_23 : decode cX0_init 23 = .ok (.putfield 20, 3) := by decide +kernel
theorem dX0_init_26 : decode cX0_init 26 = .ok (.aload_n 0, 1) := by decide +kernel
theorem dX0_init_27 : decode cX0_init 27 = .ok (.iconst 0, 1) := by decide +kernel
theorem dX0_init_28 : decode cX0_init 28 = .ok (.putfield 23, 3) := by decide +kernel
theorem dX0_init_31 : decode cX0_init 31 = .ok (.return_, 1) := by decide +kernel
theorem dX0_start_0 : decode cX0_start 0 = .ok (.aload_n 0, 1) := by decide +kernel
theorem dX0_start_1 : decode cX0_start 1 = .ok (.aload_n 0, 1) := by decide +kernel
theorem dX0_start_2 : decode cX0_start 2 = .ok (.getfield 7, 3) := by decide +kernel
theorem dX0_start_5 : decode cX0_start 5 = .ok (.iconst 0, 1) := by decide +kernel
theorem dX0_start_6 : decode cX0_start 6 = .ok (.invokevirtual 26, 3) := by decide +kernel
theorem dX0_start_9 : decode cX0_start 9 = .ok (.bipush 8, 2) := by decide +kernel
theorem dX0_start_11 : decode cX0_start 11 = .ok (.ishl, 1) := by decide +kernel
theorem dX0_start_12 : decode cX0_start 12 = .ok (.aload_n 0, 1) := by decide +kernel
theorem dX0_start_13 : decode cX0_start 13 = .ok (.getfield 7, 3) := by decide +kernel
theorem dX0_start_16 : decode cX0_start 16 = .ok (.iconst 1, 1) := by decide +kernel
theorem dX0_start_17 : decode cX0_start 17 = .ok (.invokevirtual 26, 3) := by decide +kernel
theorem dX0_start_20 : decode cX0_start 20 = .ok (.iadd, 1) := by decide +kernel
theorem dX0_start_21 : decode cX0_start 21 = .ok (.putfield 13, 3) := by decide +kernel
theorem dX0_start_24 : decode cX0_start 24 = .ok (.aload_n 0, 1) := by decide +kernel
theorem dX0_start_25 : decode cX0_start 25 = .ok (.sipush 255, 3) := by decide +kernel
theorem dX0_start_28 : decode cX0_start 28 = .ok (.putfield 17, 3) := by decide +kernel
theorem dX0_start_31 : decode cX0_start 31 = .ok (.aload_n 0, 1) := by decide +kernel
theorem dX0_start_32 : decode cX0_start 32 = .ok (.iconst 0, 1) := by decide +kernel
theorem dX0_start_33 : decode cX0_start 33 = .ok (.putfield 20, 3) := by decide +kernel
theorem dX0_start_36 : decode cX0_start 36 = .ok (.aload_n 0, 1) := by decide +kernel
theorem dX0_start_37 : decode cX0_start 37 = .ok (.iconst 2, 1) := by decide +kernel
theorem dX0_start_38 : decode cX0_start 38 = .ok (.putfield 23, 3) := by decide +kernel
theorem dX0_start_41 : decode cX0_start 41 = .ok (.return_, 1) := by decide +kernel
theorem dX0_readBit_0 : decode cX0_readBit 0 = .ok (.aload_n 0, 1) := by decide +kernel
theorem dX0_readBit_1 : decode cX0_readBit 1 = .ok (.getfield 17, 3) := by decide +kernel
theorem dX0_readBit_4 : decode cX0_readBit 4 = .ok (.iload_n 1, 1) := by decide +kernel
theorem dX0_readBit_5 : decode cX0_readBit 5 = .ok (.invokestatic 32, 3) := by decide +kernel
theorem dX0_readBit_8 : decode cX0_readBit 8 = .ok (.istore_n 2, 1) := by decide +kernel
theorem dX0_readBit_9 : decode cX0_readBit 9 = .ok (.aload_n 0, 1) := by decide +kernel
theorem dX0_readBit_10 : decode cX0_readBit 10 = .ok (.getfield 13, 3) := by decide +kernel
theorem dX0_readBit_13 : decode cX0_readBit 13 = .ok (.iload_n 2, 1) := by decide +kernel
theorem dX0_readBit_14 : decode cX0_readBit 14 = .ok (.bipush 8, 2) := by decide +kernel
theorem dX0_readBit_16 : decode cX0_readBit 16 = .ok (.ishl, 1) := by decide +kernel
theorem dX0_readBit_17 : decode cX0_readBit 17 = .ok (.if_icmp .lt 7, 3) := by decide +kernel
theorem dX0_readBit_20 : decode cX0_readBit 20 = .ok (.iconst 1, 1) := by decide +kernel
theorem dX0_readBit_21 : decode cX0_readBit 21 = .ok (.goto 4, 3) := by decide +kernel
theorem dX0_readBit_24 : decode cX0_readBit 24 = .ok (.iconst 0, 1) := by decide +kernel
theorem dX0_readBit_25 : decode cX0_readBit 25 = .ok (.istore_n 3, 1) := by decide +kernel
theorem dX0_readBit_26 : decode cX0_readBit 26 = .ok (.iload_n 3, 1) := by decide +kernel
theorem dX0_readBit_27 : decode cX0_readBit 27 = .ok (.iconst 1, 1) := by decide +kernel
theorem dX0_readBit_28 : decode cX0_readBit 28 = .ok (.if_icmp .ne 29, 3) := by decide +kernel
theorem dX0_readBit_31 : decode cX0_readBit 31 = .ok (.aload_n 0, 1) := by decide +kernel
theorem dX0_readBit_32 : decode cX0_readBit 32 = .ok (.dup, 1) := by decide +kernel
theorem dX0_readBit_33 : decode cX0_readBit 33 = .ok (.getfield 17, 3) := by decide +kernel
theorem dX0_readBit_36 : decode cX0_readBit 36 = .ok (.iload_n 2, 1) := by decide +kernel
theorem dX0_readBit_37 : decode cX0_readBit 37 = .ok (.isub, 1) := by decide +kernel
theorem dX0_readBit_38 : decode cX0_readBit 38 = .ok (.putfield 17, 3) := by decide +kernel
theorem dX0_readBit_41 : decode cX0_readBit 41 = .ok (.aload_n 0, 1) := by decide +kernel
theorem dX0_readBit_42 : decode cX0_readBit 42 = .ok (.dup, 1) := by decide +kernel
theorem dX0_readBit_43 : decode cX0_readBit 43 = .ok (.getfield 13, 3) := by decide +kernel
theorem dX0_readBit_46 : decode cX0_readBit 46 = .ok (.iload_n 2, 1) := by decide +kernel
theorem dX0_readBit_47 : decode cX0_readBit 47 = .ok (.bipush 8, 2) := by decide +kernel
theorem dX0_readBit_49 : decode cX0_readBit 49 = .ok (.ishl, 1) := by decide +kernel
theorem dX0_readBit_50 : decode cX0_readBit 50 = .ok (.isub, 1) := by decide +kernel
theorem dX0_readBit_51 : decode cX0_readBit 51 = .ok (.putfield 13, 3) := by decide +kernel
theorem dX0_readBit_54 : decode cX0_readBit 54 = .ok (.goto 8, 3) := by decide +kernel
theorem dX0_readBit_57 : decode cX0_readBit 57 = .ok (.aload_n 0, 1) := by decide +kernel
theorem dX0_readBit_58 : decode cX0_readBit 58 = .ok (.iload_n 2, 1) := by decide +kernel
theorem dX0_readBit_59 : decode cX0_readBit 59 = .ok (.putfield 17, 3) := by decide +kernel
theorem dX0_readBit_62 : decode cX0_readBit 62 = .ok (.iconst 0, 1) := by decide +kernel
theorem dX0_readBit_63 : decode cX0_readBit 63 = .ok (.istore 4, 2) := by decide +kernel
theorem dX0_readBit_65 : decode cX0_readBit 65 = .ok (.iload 4, 2) := by decide +kernel
theorem dX0_readBit_67 : decode cX0_readBit 67 = .ok (.bipush 7, 2) := by decide +kernel
theorem dX0_readBit_69 : decode cX0_readBit 69 = .ok (.if_icmp .ge 98, 3) := by decide +kernel
theorem dX0_readBit_72 : decode cX0_readBit 72 = .ok (.aload_n 0, 1) := by decide +kernel
theorem dX0_readBit_73 : decode cX0_readBit 73 = .ok (.getfield 17, 3) := by decide +kernel
theorem dX0_readBit_76 : decode cX0_readBit 76 = .ok (.sipush 128, 3) := by decide +kernel
theorem dX0_readBit_79 : decode cX0_readBit 79 = .ok (.if_icmp .ge 88, 3) := by decide +kernel
theorem dX0_readBit_82 : decode cX0_readBit 82 = .ok (.aload_n 0, 1) := by decide +kernel
theorem dX0_readBit_83 : decode cX0_readBit 83 = .ok (.dup, 1) := by decide +kernel
theorem dX0_readBit_84 : decode cX0_readBit 84 = .ok (.getfield 17, 3) := by decide +kernel
theorem dX0_readBit_87 : decode cX0_readBit 87 = .ok (.iconst 1, 1) := by decide +kernel
theorem dX0_readBit_88 : decode cX0_readBit 88 = .ok (.ishl, 1) := by decide +kernel
theorem dX0_readBit_89 : decode cX0_readBit 89 = .ok (.putfield 17, 3) := by decide +kernel
theorem dX0_readBit_92 : decode cX0_readBit 92 = .ok (.aload_n 0, 1) := by decide +kernel
theorem dX0_readBit_93 : decode cX0_readBit 93 = .ok (.aload_n 0, 1) := by decide +kernel
theorem dX0_readBit_94 : decode cX0_readBit 94 = .ok (.getfield 13, 3) := by decide +kernel
theorem dX0_readBit_97 : decode cX0_readBit 97 = .ok (.iconst 1, 1) := by decide +kernel
theorem dX0_readBit_98 : decode cX0_readBit 98 = .ok (.ishl, 1) := by decide +kernel
theorem dX0_readBit_99 : decode cX0_readBit 99 = .ok (.ldc 38, 2) := by decide +kernel
theorem dX0_readBit_101 : decode cX0_readBit 101 = .ok (.invokestatic 39, 3) := by decide +kernel
theorem dX0_readBit_104 : decode cX0_readBit 104 = .ok (.putfield 13, 3) := by decide +kernel
theorem dX0_readBit_107 : decode cX0_readBit 107 = .ok (.aload_n 0, 1) := by decide +kernel
theorem dX0_readBit_108 : decode cX0_readBit 108 = .ok (.dup, 1) := by decide +kernel
theorem dX0_readBit_109 : decode cX0_readBit 109 = .ok (.getfield 20, 3) := by decide +kernel
theorem dX0_readBit_112 : decode cX0_readBit 112 = .ok (.iconst 1, 1) := by decide +kernel
theorem dX0_readBit_113 : decode cX0_readBit 113 = .ok (.iadd, 1) := by decide +kernel
theorem dX0_readBit_114 : decode cX0_readBit 114 = .ok (.putfield 20, 3) := by decide +kernel
theorem dX0_readBit_117 : decode cX0_readBit 117 = .ok (.aload_n 0, 1) := by decide +kernel
theorem dX0_readBit_118 : decode cX0_readBit 118 = .ok (.getfield 20, 3) := by decide +kernel
theorem dX0_readBit_121 : decode cX0_readBit 121 = .ok (.bipush 8, 2) := by decide +kernel
theorem dX0_readBit_123 : decode cX0_readBit 123 = .ok (.if_icmp .ne 38, 3) := by decide +kernel
theorem dX0_readBit_126 : decode cX0_readBit 126 = .ok (.aload_n 0, 1) := by decide +kernel
theorem dX0_readBit_127 : decode cX0_readBit 127 = .ok (.iconst 0, 1) := by decide +kernel
theorem dX0_readBit_128 : decode cX0_readBit 128 = .ok (.putfield 20, 3) := by decide +kernel
theorem dX0_readBit_131 : decode cX0_readBit 131 = .ok (.aload_n 0, 1) := by decide +kernel
theorem dX0_readBit_132 : decode cX0_readBit 132 = .ok (.dup, 1) := by decide +kernel
theorem dX0_readBit_133 : decode cX0_readBit 133 = .ok (.getfield 13, 3) := by decide +kernel
theorem dX0_readBit_136 : decode cX0_readBit 136 = .ok (.aload_n 0, 1) := by decide +kernel
theorem dX0_readBit_137 : decode cX0_readBit 137 = .ok (.getfield 7, 3) := by decide +kernel
theorem dX0_readBit_140 : decode cX0_readBit 140 = .ok (.aload_n 0, 1) := by decide +kernel
theorem dX0_readBit_141 : decode cX0_readBit 141 = .ok (.getfield 23, 3) := by decide +kernel
theorem dX0_readBit_144 : decode cX0_readBit 144 = .ok (.invokevirtual 26, 3) := by decide +kernel
theorem dX0_readBit_147 : decode cX0_readBit 147 = .ok (.iadd, 1) := by decide +kernel
theorem dX0_readBit_148 : decode cX0_readBit 148 = .ok (.putfield 13, 3) := by decide +kernel
theorem dX0_readBit_151 : decode cX0_readBit 151 = .ok (.aload_n 0, 1) := by decide +kernel
theorem dX0_readBit_152 : decode cX0_readBit 152 = .ok (.dup, 1) := by decide +kernel
theorem dX0_readBit_153 : decode cX0_readBit 153 = .ok (.getfield 23, 3) := by decide +kernel
theorem dX0_readBit_156 : decode cX0_readBit 156 = .ok (.iconst 1, 1) := by decide +kernel
theorem dX0_readBit_157 : decode cX0_readBit 157 = .ok (.iadd, 1) := by decide +kernel
theorem dX0_readBit_158 : decode cX0_readBit 158 = .ok (.putfield 23, 3) := by decide +kernel
theorem dX0_readBit_161 : decode cX0_readBit 161 = .ok (.iinc 4 1, 3) := by decide +kernel
theorem dX0_readBit_164 : decode cX0_readBit 164 = .ok (.goto (-99), 3) := by decide +kernel
theorem dX0_readBit_167 : decode cX0_readBit 167 = .ok (.iload_n 3, 1) := by decide +kernel
theorem dX0_readBit_168 : decode cX0_readBit 168 = .ok (.ireturn, 1) := by decide +kernel
theorem dX0_readBits_0 : decode cX0_readBits 0 = .ok (.iconst 0, 1) := by decide +kernel
theorem dX0_readBits_1 : decode cX0_readBits 1 = .ok (.istore_n 3, 1) := by decide +kernel
theorem dX0_readBits_2 : decode cX0_readBits 2 = .ok (.iconst 0, 1) := by decide +kernel
theorem dX0_readBits_3 : decode cX0_readBits 3 = .ok (.istore 4, 2) := by decide +kernel
theorem dX0_readBits_5 : decode cX0_readBits 5 = .ok (.iload 4, 2) := by decide +kernel
theorem dX0_readBits_7 : decode cX0_readBits 7 = .ok (.iload_n 2, 1) := by decide +kernel
theorem dX0_readBits_8 : decode cX0_readBits 8 = .ok (.if_icmp .ge 19, 3) := by decide +kernel
theorem dX0_readBits_11 : decode cX0_readBits 11 = .ok (.iload_n 3, 1) := by decide +kernel
theorem dX0_readBits_12 : decode cX0_readBits 12 = .ok (.iconst 1, 1) := by decide +kernel
theorem dX0_readBits_13 : decode cX0_readBits 13 = .ok (.ishl, 1) := by decide +kernel
theorem dX0_readBits_14 : decode cX0_readBits 14 = .ok (.aload_n 0, 1) := by decide +kernel
theorem dX0_readBits_15 : decode cX0_readBits 15 = .ok (.iload_n 1, 1) := by decide +kernel
theorem dX0_readBits_16 : decode cX0_readBits 16 = .ok (.invokevirtual 44, 3) := by decide +kernel
theorem dX0_readBits_19 : decode cX0_readBits 19 = .ok (.ior, 1) := by decide +kernel
theorem dX0_readBits_20 : decode cX0_readBits 20 = .ok (.istore_n 3, 1) := by decide +kernel
theorem dX0_readBits_21 : decode cX0_readBits 21 = .ok (.iinc 4 1, 3) := by decide +kernel
theorem dX0_readBits_24 : decode cX0_readBits 24 = .ok (.goto (-19), 3) := by decide +kernel
theorem dX0_readBits_27 : decode cX0_readBits 27 = .ok (.iload_n 3, 1) := by decide +kernel
theorem dX0_readBits_28 : decode cX0_readBits 28 = .ok (.ireturn, 1) := by decide +kernel
theorem dX0_readNumber_0 : decode cX0_readNumber 0 = .ok (.aload_n 0, 1) := by decide +kernel
theorem dX0_readNumber_1 : decode cX0_readNumber 1 = .ok (.sipush 128, 3) := by decide +kernel
theorem dX0_readNumber_4 : decode cX0_readNumber 4 = .ok (.iload_n 1, 1) := by decide +kernel
theorem dX0_readNumber_5 : decode cX0_readNumber 5 = .ok (.invokevirtual 47, 3) := by decide +kernel
theorem dX0_readNumber_8 : decode cX0_readNumber 8 = .ok (.ireturn, 1) := by decide +kernel
theorem dX0_octetsBeyond_0 : decode cX0_octetsBeyond 0 = .ok (.iconst 0, 1) := by decide +kernel
theorem dX0_octetsBeyond_1 : decode cX0_octetsBeyond 1 = .ok (.aload_n 0, 1) := by decide +kernel
theorem dX0_octetsBeyond_2 : decode cX0_octetsBeyond 2 = .ok (.getfield 23, 3) := by decide +kernel
theorem dX0_octetsBeyond_5 : decode cX0_octetsBeyond 5 = .ok (.aload_n 0, 1) := by decide +kernel
theorem dX0_octetsBeyond_6 : decode cX0_octetsBeyond 6 = .ok (.getfield 7, 3) := by decide +kernel
theorem dX0_octetsBeyond_9 : decode cX0_octetsBeyond 9 = .ok (.invokevirtual 50, 3) := by decide +kernel
theorem dX0_octetsBeyond_12 : decode cX0_octetsBeyond 12 = .ok (.isub, 1) := by decide +kernel
theorem dX0_octetsBeyond_13 : decode cX0_octetsBeyond 13 = .ok (.invokestatic 54, 3) := by decide +kernel
theorem dX0_octetsBeyond_16 : decode cX0_octetsBeyond 16 = .ok (.ireturn, 1) := by decide +kernel
theorem dX1_init_0 : decode cX1_init 0 = .ok (.aload_n 0, 1) := by decide +kernel
theorem dX1_init_1 : decode cX1_init 1 = .ok (.invokespecial 1, 3) := by decide +kernel
theorem dX1_init_4 : decode cX1_init 4 = .ok (.aload_n 0, 1) := by decide +kernel
theorem dX1_init_5 : decode cX1_init 5 = .ok (.aload_n 1, 1) := by decide +kernel
theorem dX1_init_6 : decode cX1_init 6 = .ok (.putfield 7, 3) := by decide +kernel
theorem dX1_init_9 : decode cX1_init 9 = .ok (.aload_n 0, 1) := by decide +kernel
theorem dX1_init_10 : decode cX1_init 10 = .ok (.iconst 0, 1) := by decide +kernel
theorem dX1_init_11 : decode cX1_init 11 = .ok (.putfield 13, 3) := by decide +kernel
theorem dX1_init_14 : decode cX1_init 14 = .ok (.aload_n 0, 1) := by decide +kernel
theorem dX1_init_15 : decode cX1_init 15 = .ok (.sipush 255, 3) := by decide +kernel
theorem dX1_init_18 : decode cX1_init 18 = .ok (.putfield 17, 3) := by decide +kernel
theorem dX1_init_21 : decode cX1_init 21 = .ok (.aload_n 0, 1) := by decide +kernel
theorem dX1_init_22 : decode cX1_init 22 = .ok (.bipush 24, 2) := by decide +kernel
theorem dX1_init_24 : decode cX1_init 24 = .ok (.putfield 20, 3) := by decide +kernel
theorem dX1_init_27 : decode cX1_init 27 = .ok (.return_, 1) := by decide +kernel
theorem dX1_start_0 : decode cX1_start 0 = .ok (.aload_n 0, 1) := by decide +kernel
theorem dX1_start_1 : decode cX1_start 1 = .ok (.iconst 0, 1) := by decide +kernel
theorem dX1_start_2 : decode cX1_start 2 = .ok (.putfield 13, 3) := by decide +kernel
theorem dX1_start_5 : decode cX1_start 5 = .ok (.aload_n 0, 1) := by decide +kernel
theorem dX1_start_6 : decode cX1_start 6 = .ok (.sipush 255, 3) := by decide +kernel
theorem dX1_start_9 : decode cX1_start 9 = .ok (.putfield 17, 3) := by decide +kernel
theorem dX1_start_12 : decode cX1_start 12 = .ok (.aload_n 0, 1) := by decide +kernel
theorem dX1_start_13 : decode cX1_start 13 = .ok (.bipush 24, 2) := by decide +kernel
theorem dX1_start_15 : decode cX1_start 15 = .ok (.putfield 20, 3) := by decide +kernel
theorem dX1_start_18 : decode cX1_start 18 = .ok (.return_, 1) := by decide +kernel
theorem dX1_writeBit_0 : decode cX1_writeBit 0 = .ok (.aload_n 0, 1) := by decide +kernel
theorem dX1_writeBit_1 : decode cX1_writeBit 1 = .ok (.getfield 17, 3) := by decide +kernel
theorem dX1_writeBit_4 : decode cX1_writeBit 4 = .ok (.iload_n 1, 1) := by decide +kernel
theorem dX1_writeBit_5 : decode cX1_writeBit 5 = .ok (.invokestatic 23, 3) := by decide +kernel
theorem dX1_writeBit_8 : decode cX1_writeBit 8 = .ok (.istore_n 3, 1) := by decide +kernel
theorem dX1_writeBit_9 : decode cX1_writeBit 9 = .ok (.iload_n 2, 1) := by decide +kernel
theorem dX1_writeBit_10 : decode cX1_writeBit 10 = .ok (.ifCond .ne 11, 3) := by decide +kernel
theorem dX1_writeBit_13 : decode cX1_writeBit 13 = .ok (.aload_n 0, 1) := by decide +kernel
theorem dX1_writeBit_14 : decode cX1_writeBit 14 = .ok (.iload_n 3, 1) := by decide +kernel
theorem dX1_writeBit_15 : decode cX1_writeBit 15 = .ok (.putfield 17, 3) := by decide +kernel
theorem dX1_writeBit_18 : decode cX1_writeBit 18 = .ok (.goto 23, 3) := by decide +kernel
theorem dX1_writeBit_21 : decode cX1_writeBit 21 = .ok (.aload_n 0, 1) := by decide +kernel
theorem dX1_writeBit_22 : decode cX1_writeBit 22 = .ok (.dup, 1) := by decide +kernel
theorem dX1_writeBit_23 : decode cX1_writeBit 23 = .ok (.getfield 13, 3) := by decide +kernel
theorem dX1_writeBit_26 : decode cX1_writeBit 26 = .ok (.iload_n 3, 1) := by decide +kernel
theorem dX1_writeBit_27 : decode cX1_writeBit 27 = .ok (.iadd, 1) := by decide +kernel
theorem dX1_writeBit_28 : decode cX1_writeBit 28 = .ok (.putfield 13, 3) := by decide +kernel
theorem dX1_writeBit_31 : decode cX1_writeBit 31 = .ok (.aload_n 0, 1) := by decide +kernel
theorem dX1_writeBit_32 : decode cX1_writeBit 32 = .ok (.dup, 1) := by decide +kernel
theorem dX1_writeBit_33 : decode cX1_writeBit 33 = .ok (.getfield 17, 3) := by decide +kernel
theorem dX1_writeBit_36 : decode cX1_writeBit 36 = .ok (.iload_n 3, 1) := by decide +kernel
theorem dX1_writeBit_37 : decode cX1_writeBit 37 = .ok (.isub, 1) := by decide +kernel
theorem dX1_writeBit_38 : decode cX1_writeBit 38 = .ok (.putfield 17, 3) := by decide +kernel
theorem dX1_writeBit_41 : decode cX1_writeBit 41 = .ok (.iconst 0, 1) := by decide +kernel
theorem dX1_writeBit_42 : decode cX1_writeBit 42 = .ok (.istore 4, 2) := by decide +kernel
theorem dX1_writeBit_44 : decode cX1_writeBit 44 = .ok (.iload 4, 2) := by decide +kernel
theorem dX1_writeBit_46 : decode cX1_writeBit 46 = .ok (.bipush 7, 2) := by decide +kernel
theorem dX1_writeBit_48 : decode cX1_writeBit 48 = .ok (.if_icmp .ge 33, 3) := by decide +kernel
theorem dX1_writeBit_51 : decode cX1_writeBit 51 = .ok (.aload_n 0, 1) := by decide +kernel
theorem dX1_writeBit_52 : decode cX1_writeBit 52 = .ok (.getfield 17, 3) := by decide +kernel
theorem dX1_writeBit_55 : decode cX1_writeBit 55 = .ok (.sipush 128, 3) := by decide +kernel
theorem dX1_writeBit_58 : decode cX1_writeBit 58 = .ok (.if_icmp .ge 23, 3) := by decide +kernel
theorem dX1_writeBit_61 : decode cX1_writeBit 61 = .ok (.aload_n 0, 1) := by decide +kernel
theorem dX1_writeBit_62 : decode cX1_writeBit 62 = .ok (.dup, 1) := by decide +kernel
theorem dX1_writeBit_63 : decode cX1_writeBit 63 = .ok (.getfield 17, 3) := by decide +kernel
theorem dX1_writeBit_66 : decode cX1_writeBit 66 = .ok (.iconst 1, 1) := by decide +kernel
theorem dX1_writeBit_67 : decode cX1_writeBit 67 = .ok (.ishl, 1) := by decide +kernel
theorem dX1_writeBit_68 : decode cX1_writeBit 68 = .ok (.putfield 17, 3) := by decide +kernel
theorem dX1_writeBit_71 : decode cX1_writeBit 71 = .ok (.aload_n 0, 1) := by decide +kernel
theorem dX1_writeBit_72 : decode cX1_writeBit 72 = .ok (.invokevirtual 29, 3) := by decide +kernel
theorem dX1_writeBit_75 : decode cX1_writeBit 75 = .ok (.iinc 4 1, 3) := by decide +kernel
theorem dX1_writeBit_78 : decode cX1_writeBit 78 = .ok (.goto (-34), 3) := by decide +kernel
theorem dX1_writeBit_81 : decode cX1_writeBit 81 = .ok (.return_, 1) := by decide +kernel
theorem dX1_shiftBottom_0 : decode cX1_shiftBottom 0 = .ok (.aload_n 0, 1) := by decide +kernel
theorem dX1_shiftBottom_1 : decode cX1_shiftBottom 1 = .ok (.getfield 13, 3) := by decide +kernel
theorem dX1_shiftBottom_4 : decode cX1_shiftBottom 4 = .ok (.ifCond .ge 10, 3) := by decide +kernel
theorem dX1_shiftBottom_7 : decode cX1_shiftBottom 7 = .ok (.aload_n 0, 1) := by decide +kernel
theorem dX1_shiftBottom_8 : decode cX1_shiftBottom 8 = .ok (.getfield 7, 3) := by decide +kernel
theorem dX1_shiftBottom_11 : decode cX1_shiftBottom 11 = .ok (.invokevirtual 32, 3) := by decide +kernel
theorem dX1_shiftBottom_14 : decode cX1_shiftBottom 14 = .ok (.aload_n 0, 1) := by decide +kernel
theorem dX1_shiftBottom_15 : decode cX1_shiftBottom 15 = .ok (.dup, 1) := by decide +kernel
theorem dX1_shiftBottom_16 : decode cX1_shiftBottom 16 = .ok (.getfield 13, 3) := by decide +kernel
theorem dX1_shiftBottom_19 : decode cX1_shiftBottom 19 = .ok (.iconst 1, 1) := by decide +kernel
theorem dX1_shiftBottom_20 : decode cX1_shiftBottom 20 = .ok (.ishl, 1) := by decide +kernel
theorem dX1_shiftBottom_21 : decode cX1_shiftBottom 21 = .ok (.putfield 13, 3) := by decide +kernel
theorem dX1_shiftBottom_24 : decode cX1_shiftBottom 24 = .ok (.aload_n 0, 1) := by decide +kernel
theorem dX1_shiftBottom_25 : decode cX1_shiftBottom 25 = .ok (.dup, 1) := by decide +kernel
theorem dX1_shiftBottom_26 : decode cX1_shiftBottom 26 = .ok (.getfield 20, 3) := by decide +kernel
theorem dX1_shiftBottom_29 : decode cX1_shiftBottom 29 = .ok (.iconst 1, 1) := by decide +kernel
theorem dX1_shiftBottom_30 : decode cX1_shiftBottom 30 = .ok (.isub, 1) := by decide +kernel
theorem dX1_shiftBottom_31 : decode cX1_shiftBottom 31 = .ok (.putfield 20, 3) := by decide +kernel
theorem dX1_shiftBottom_34 : decode cX1_shiftBottom 34 = .ok (.aload_n 0, 1) := by decide +kernel
theorem dX1_shiftBottom_35 : decode cX1_shiftBottom 35 = .ok (.getfield 20, 3) := by decide +kernel
theorem dX1_shiftBottom_38 : decode cX1_shiftBottom 38 = .ok (.ifCond .ne 34, 3) := by decide +kernel
theorem dX1_shiftBottom_41 : decode cX1_shiftBottom 41 = .ok (.aload_n 0, 1) := by decide +kernel
theorem dX1_shiftBottom_42 : decode cX1_shiftBottom 42 = .ok (.getfield 7, 3) := by decide +kernel
theorem dX1_shiftBottom_45 : decode cX1_shiftBottom 45 = .ok (.aload_n 0, 1) := by decide +kernel
theorem dX1_shiftBottom_46 : decode cX1_shiftBottom 46 = .ok (.getfield 13, 3) := by decide +kernel
theorem dX1_shiftBottom_49 : decode cX1_shiftBottom 49 = .ok (.bipush 24, 2) := by decide +kernel
theorem dX1_shiftBottom_51 : decode cX1_shiftBottom 51 = .ok (.iushr, 1) := by decide +kernel
theorem dX1_shiftBottom_52 : decode cX1_shiftBottom 52 = .ok (.invokevirtual 37, 3) := by decide +kernel
theorem dX1_shiftBottom_55 : decode cX1_shiftBottom 55 = .ok (.aload_n 0, 1) := by decide +kernel
theorem dX1_shiftBottom_56 : decode cX1_shiftBottom 56 = .ok (.dup, 1) := by decide +kernel
theorem dX1_shiftBottom_57 : decode cX1_shiftBottom 57 = .ok (.getfield 13, 3) := by decide +kernel
theorem dX1_shiftBottom_60 : decode cX1_shiftBottom 60 = .ok (.ldc 41, 2) := by decide +kernel
theorem dX1_shiftBottom_62 : decode cX1_shiftBottom 62 = .ok (.iand, 1) := by decide +kernel
theorem dX1_shiftBottom_63 : decode cX1_shiftBottom 63 = .ok (.putfield 13, 3) := by decide +kernel
theorem dX1_shiftBottom_66 : decode cX1_shiftBottom 66 = .ok (.aload_n 0, 1) := by decide +kernel
theorem dX1_shiftBottom_67 : decode cX1_shiftBottom 67 = .ok (.bipush 8, 2) := by decide +kernel
theorem dX1_shiftBottom_69 : decode cX1_shiftBottom 69 = .ok (.putfield 20, 3) := by decide +kernel
theorem dX1_shiftBottom_72 : decode cX1_shiftBottom 72 = .ok (.return_, 1) := by decide +kernel
theorem dX1_finish_0 : decode cX1_finish 0 = .ok (.aload_n 0, 1) := by decide +kernel
theorem dX1_finish_1 : decode cX1_finish 1 = .ok (.getfield 13, 3) := by decide +kernel
theorem dX1_finish_4 : decode cX1_finish 4 = .ok (.bipush 32, 2) := by decide +kernel
theorem dX1_finish_6 : decode cX1_finish 6 = .ok (.aload_n 0, 1) := by decide +kernel
theorem dX1_finish_7 : decode cX1_finish 7 = .ok (.getfield 20, 3) := by decide +kernel
theorem dX1_finish_10 : decode cX1_finish 10 = .ok (.isub, 1) := by decide +kernel
theorem dX1_finish_11 : decode cX1_finish 11 = .ok (.iushr, 1) := by decide +kernel
theorem dX1_finish_12 : decode cX1_finish 12 = .ok (.iconst 1, 1) := by decide +kernel
theorem dX1_finish_13 : decode cX1_finish 13 = .ok (.iand, 1) := by decide +kernel
theorem dX1_finish_14 : decode cX1_finish 14 = .ok (.ifCond .eq 10, 3) := by decide +kernel
theorem dX1_finish_17 : decode cX1_finish 17 = .ok (.aload_n 0, 1) := by decide +kernel
theorem dX1_finish_18 : decode cX1_finish 18 = .ok (.getfield 7, 3) := by decide +kernel
theorem dX1_finish_21 : decode cX1_finish 21 = .ok (.invokevirtual 32, 3) := by decide +kernel
theorem dX1_finish_24 : decode cX1_finish 24 = .ok (.aload_n 0, 1) := by decide +kernel
theorem dX1_finish_25 : decode cX1_finish 25 = .ok (.dup, 1) := by decide +kernel
theorem dX1_finish_26 : decode cX1_finish 26 = .ok (.getfield 13, 3) := by decide +kernel
theorem dX1_finish_29 : decode cX1_finish 29 = .ok (.aload_n 0, 1) := by decide +kernel
theorem dX1_finish_30 : decode cX1_finish 30 = .ok (.getfield 20, 3) := by decide +kernel
theorem dX1_finish_33 : decode cX1_finish 33 = .ok (.ishl, 1) := by decide +kernel
theorem dX1_finish_34 : decode cX1_finish 34 = .ok (.putfield 13, 3) := by decide +kernel
theorem dX1_finish_37 : decode cX1_finish 37 = .ok (.iconst 0, 1) := by decide +kernel
theorem dX1_finish_38 : decode cX1_finish 38 = .ok (.istore_n 1, 1) := by decide +kernel
theorem dX1_finish_39 : decode cX1_finish 39 = .ok (.iload_n 1, 1) := by decide +kernel
theorem dX1_finish_40 : decode cX1_finish 40 = .ok (.iconst 4, 1) := by decide +kernel
theorem dX1_finish_41 : decode cX1_finish 41 = .ok (.if_icmp .ge 34, 3) := by decide +kernel
theorem dX1_finish_44 : decode cX1_finish 44 = .ok (.aload_n 0, 1) := by decide +kernel
theorem dX1_finish_45 : decode cX1_finish 45 = .ok (.getfield 7, 3) := by decide +kernel
theorem dX1_finish_48 : decode cX1_finish 48 = .ok (.aload_n 0, 1) := by decide +kernel
theorem dX1_finish_49 : decode cX1_finish 49 = .ok (.getfield 13, 3) := by decide +kernel
theorem dX1_finish_52 : decode cX1_finish 52 = .ok (.bipush 24, 2) := by decide +kernel
theorem dX1_finish_54 : decode cX1_finish 54 = .ok (.iushr, 1) := by decide +kernel
theorem dX1_finish_55 : decode cX1_finish 55 = .ok (.invokevirtual 37, 3) := by decide +kernel
theorem dX1_finish_58 : decode cX1_finish 58 = .ok (.aload_n 0, 1) := by decide +kernel
theorem dX1_finish_59 : decode cX1_finish 59 = .ok (.dup, 1) := by decide +kernel
theorem dX1_finish_60 : decode cX1_finish 60 = .ok (.getfield 13, 3) := by decide +kernel
theorem dX1_finish_63 : decode cX1_finish 63 = .ok (.bipush 8, 2) := by decide +kernel
theorem dX1_finish_65 : decode cX1_finish 65 = .ok (.ishl, 1) := by decide +kernel
theorem dX1_finish_66 : decode cX1_finish 66 = .ok (.putfield 13, 3) := by decide +kernel
theorem dX1_finish_69 : decode cX1_finish 69 = .ok (.iinc 1 1, 3) := by decide +kernel
theorem dX1_finish_72 : decode cX1_finish 72 = .ok (.goto (-33), 3) := by decide +kernel
theorem dX1_finish_75 : decode cX1_finish 75 = .ok (.return_, 1) := by decide +kernel
theorem dX2_init_0 : decode cX2_init 0 = .ok (.aload_n 0, 1) := by decide +kernel
theorem dX2_init_1 : decode cX2_init 1 = .ok (.invokespecial 3, 3) := by decide +kernel
theorem dX2_init_4 : decode cX2_init 4 = .ok (.aload_n 0, 1) := by decide +kernel
theorem dX2_init_5 : decode cX2_init 5 = .ok (.sipush 264, 3) := by decide +kernel
theorem dX2_init_8 : decode cX2_init 8 = .ok (.newarray .int, 2) := by decide +kernel
theorem dX2_init_10 : decode cX2_init 10 = .ok (.putfield 9, 3) := by decide +kernel
theorem dX2_init_13 : decode cX2_init 13 = .ok (.return_, 1) := by decide +kernel
theorem dX2_readProbabilities_0 : decode cX2_readProbabilities 0 = .ok (.iconst 0, 1) := by decide +kernel
theorem dX2_readProbabilities_1 : decode cX2_readProbabilities 1 = .ok (.istore_n 2, 1) := by decide +kernel
theorem dX2_readProbabilities_2 : decode cX2_readProbabilities 2 = .ok (.iconst 0, 1) := by decide +kernel
theorem dX2_readProbabilities_3 : decode cX2_readProbabilities 3 = .ok (.istore_n 3, 1) := by decide +kernel
theorem dX2_readProbabilities_4 : decode cX2_readProbabilities 4 = .ok (.iload_n 3, 1) := by decide +kernel
theorem dX2_readProbabilities_5 : decode cX2_readProbabilities 5 = .ok (.sipush 264, 3) := by decide +kernel
theorem dX2_readProbabilities_8 : decode cX2_readProbabilities 8 = .ok (.if_icmp .ge 48, 3) := by decide +kernel
theorem dX2_readProbabilities_11 : decode cX2_readProbabilities 11 = .ok (.aload_n 0, 1) := by decide +kernel
theorem dX2_readProbabilities_12 : decode cX2_readProbabilities 12 = .ok (.getfield 9, 3) := by decide +kernel
theorem dX2_readProbabilities_15 : decode cX2_readProbabilities 15 = .ok (.iload_n 3, 1) := by decide +kernel
theorem dX2_readProbabilities_16 : decode cX2_readProbabilities 16 = .ok (.sipush 128, 3) := by decide +kernel
theorem dX2_readProbabilities_19 : decode cX2_readProbabilities 19 = .ok (.iastore, 1) := by decide +kernel
theorem dX2_readProbabilities_20 : decode cX2_readProbabilities 20 = .ok (.aload_n 1, 1) := by decide +kernel
theorem dX2_readProbabilities_21 : decode cX2_readProbabilities 21 = .ok (.sipush 250, 3) := by decide +kernel
theorem dX2_readProbabilities_24 : decode cX2_readProbabilities 24 = .ok (.invokevirtual 13, 3) := by decide +kernel
theorem dX2_readProbabilities_27 : decode cX2_readProbabilities 27 = .ok (.iconst 1, 1) := by decide +kernel
theorem dX2_readProbabilities_28 : decode cX2_readProbabilities 28 = .ok (.if_icmp .ne 22, 3) := by decide +kernel
theorem dX2_readProbabilities_31 : decode cX2_readProbabilities 31 = .ok (.aload_n 0, 1) := by decide +kernel
theorem dX2_readProbabilities_32 : decode cX2_readProbabilities 32 = .ok (.getfield 9, 3) := by decide +kernel
theorem dX2_readProbabilities_35 : decode cX2_readProbabilities 35 = .ok (.iload_n 3, 1) := by decide +kernel
theorem dX2_readProbabilities_36 : decode cX2_readProbabilities 36 = .ok (.iconst 1, 1) := by decide +kernel
theorem dX2_readProbabilities_37 : decode cX2_readProbabilities 37 = .ok (.aload_n 1, 1) := by decide +kernel
theorem dX2_readProbabilities_38 : decode cX2_readProbabilities 38 = .ok (.bipush 8, 2) := by decide +kernel
theorem dX2_readProbabilities_40 : decode cX2_readProbabilities 40 = .ok (.invokevirtual 19, 3) := by decide +kernel
theorem dX2_readProbabilities_43 : decode cX2_readProbabilities 43 = .ok (.invokestatic 22, 3) := by decide +kernel
theorem dX2_readProbabilities_46 : decode cX2_readProbabilities 46 = .ok (.iastore, 1) := by decide +kernel
theorem dX2_readProbabilities_47 : decode cX2_readProbabilities 47 = .ok (.iinc 2 1, 3) := by decide +kernel
theorem dX2_readProbabilities_50 : decode cX2_readProbabilities 50 = .ok (.iinc 3 1, 3) := by decide +kernel
theorem dX2_readProbabilities_53 : decode cX2_readProbabilities 53 = .ok (.goto (-49), 3) := by decide +kernel
theorem dX2_readProbabilities_56 : decode cX2_readProbabilities 56 = .ok (.iload_n 2, 1) := by decide +kernel
theorem dX2_readProbabilities_57 : decode cX2_readProbabilities 57 = .ok (.ireturn, 1) := by decide +kernel
theorem dX2_readBlock_0 : decode cX2_readBlock 0 = .ok (.iload_n 2, 1) := by decide +kernel
theorem dX2_readBlock_1 : decode cX2_readBlock 1 = .ok (.istore 5, 2) := by decide +kernel
theorem dX2_readBlock_3 : decode cX2_readBlock 3 = .ok (.iconst 1, 1) := by decide +kernel
theorem dX2_readBlock_4 : decode cX2_readBlock 4 = .ok (.istore 6, 2) := by decide +kernel
theorem dX2_readBlock_6 : decode cX2_readBlock 6 = .ok (.iconst 0, 1) := by decide +kernel
theorem dX2_readBlock_7 : decode cX2_readBlock 7 = .ok (.istore 7, 2) := by decide +kernel
theorem dX2_readBlock_9 : decode cX2_readBlock 9 = .ok (.iload 7, 2) := by decide +kernel
theorem dX2_readBlock_11 : decode cX2_readBlock 11 = .ok (.bipush 16, 2) := by decide +kernel
theorem dX2_readBlock_13 : decode cX2_readBlock 13 = .ok (.if_icmp .ge 127, 3) := by decide +kernel
theorem dX2_readBlock_16 : decode cX2_readBlock 16 = .ok (.getstatic 30, 3) := by decide +kernel
theorem dX2_readBlock_19 : decode cX2_readBlock 19 = .ok (.iload 7, 2) := by decide +kernel
theorem dX2_readBlock_21 : decode cX2_readBlock 21 = .ok (.iaload, 1) := by decide +kernel
theorem dX2_readBlock_22 : decode cX2_readBlock 22 = .ok (.iconst 3, 1) := by decide +kernel
theorem dX2_readBlock_23 : decode cX2_readBlock 23 = .ok (.imul, 1) := by decide +kernel
theorem dX2_readBlock_24 : decode cX2_readBlock 24 = .ok (.iload 5, 2) := by decide +kernel
theorem dX2_readBlock_26 : decode cX2_readBlock 26 = .ok (.iadd, 1) := by decide +kernel
theorem dX2_readBlock_27 : decode cX2_readBlock 27 = .ok (.bipush 11, 2) := by decide +kernel
theorem dX2_readBlock_29 : decode cX2_readBlock 29 = .ok (.imul, 1) := by decide +kernel
theorem dX2_readBlock_30 : decode cX2_readBlock 30 = .ok (.istore 8, 2) := by decide +kernel
theorem dX2_readBlock_32 : decode cX2_readBlock 32 = .ok (.iload 6, 2) := by decide +kernel
theorem dX2_readBlock_34 : decode cX2_readBlock 34 = .ok (.ifCond .eq 20, 3) := by decide +kernel
theorem dX2_readBlock_37 : decode cX2_readBlock 37 = .ok (.aload_n 1, 1) := by decide +kernel
theorem dX2_readBlock_38 : decode cX2_readBlock 38 = .ok (.aload_n 0, 1) := by decide +kernel
theorem dX2_readBlock_39 : decode cX2_readBlock 39 = .ok (.getfield 9, 3) := by decide +kernel
theorem dX2_readBlock_42 : decode cX2_readBlock 42 = .ok (.iload 8, 2) := by decide +kernel
theorem dX2_readBlock_44 : decode cX2_readBlock 44 = .ok (.iaload, 1) := by decide +kernel
theorem dX2_readBlock_45 : decode cX2_readBlock 45 = .ok (.invokevirtual 13, 3) := by decide +kernel
theorem dX2_readBlock_48 : decode cX2_readBlock 48 = .ok (.ifCond .ne 6, 3) := by decide +kernel
theorem dX2_readBlock_51 : decode cX2_readBlock 51 = .ok (.iload 7, 2) := by decide +kernel
theorem dX2_readBlock_53 : decode cX2_readBlock 53 = .ok (.ireturn, 1) := by decide +kernel
theorem dX2_readBlock_54 : decode cX2_readBlock 54 = .ok (.aload_n 1, 1) := by decide +kernel
theorem dX2_readBlock_55 : decode cX2_readBlock 55 = .ok (.aload_n 0, 1) := by decide +kernel
theorem dX2_readBlock_56 : decode cX2_readBlock 56 = .ok (.getfield 9, 3) := by decide +kernel
theorem dX2_readBlock_59 : decode cX2_readBlock 59 = .ok (.iload 8, 2) := by decide +kernel
theorem dX2_readBlock_61 : decode cX2_readBlock 61 = .ok (.iconst 1, 1) := by decide +kernel
theorem dX2_readBlock_62 : decode cX2_readBlock 62 = .ok (.iadd, 1) := by decide +kernel
theorem dX2_readBlock_63 : decode cX2_readBlock 63 = .ok (.iaload, 1) := by decide +kernel
theorem dX2_readBlock_64 : decode cX2_readBlock 64 = .ok (.invokevirtual 13, 3) := by decide +kernel
theorem dX2_readBlock_67 : decode cX2_readBlock 67 = .ok (.ifCond .ne 7, 3) := by decide +kernel
theorem dX2_readBlock_70 : decode cX2_readBlock 70 = .ok (.iconst 0, 1) := by decide +kernel
theorem dX2_readBlock_71 : decode cX2_readBlock 71 = .ok (.goto 10, 3) := by decide +kernel
theorem dX2_readBlock_74 : decode cX2_readBlock 74 = .ok (.aload_n 0, 1) := by decide +kernel
theorem dX2_readBlock_75 : decode cX2_readBlock 75 = .ok (.aload_n 1, 1) := by decide +kernel
theorem dX2_readBlock_76 : decode cX2_readBlock 76 = .ok (.iload 8, 2) := by decide +kernel
theorem dX2_readBlock_78 : decode cX2_readBlock 78 = .ok (.invokevirtual 33, 3) := by decide +kernel
theorem dX2_readBlock_81 : decode cX2_readBlock 81 = .ok (.istore 9, 2) := by decide +kernel
theorem dX2_readBlock_83 : decode cX2_readBlock 83 = .ok (.iload 9, 2) := by decide +kernel
theorem dX2_readBlock_85 : decode cX2_readBlock 85 = .ok (.ifCond .le 29, 3) := by decide +kernel
theorem dX2_readBlock_88 : decode cX2_readBlock 88 = .ok (.aload_n 3, 1) := by decide +kernel
theorem dX2_readBlock_89 : decode cX2_readBlock 89 = .ok (.iload 4, 2) := by decide +kernel
theorem dX2_readBlock_91 : decode cX2_readBlock 91 = .ok (.iload 7, 2) := by decide +kernel
theorem dX2_readBlock_93 : decode cX2_readBlock 93 = .ok (.iadd, 1) := by decide +kernel
theorem dX2_readBlock_94 : decode cX2_readBlock 94 = .ok (.aload_n 1, 1) := by decide +kernel
theorem dX2_readBlock_95 : decode cX2_readBlock 95 = .ok (.sipush 128, 3) := by decide +kernel
theorem dX2_readBlock_98 : decode cX2_readBlock 98 = .ok (.invokevirtual 13, 3) := by decide +kernel
theorem dX2_readBlock_101 : decode cX2_readBlock 101 = .ok (.iconst 1, 1) := by decide +kernel
theorem dX2_readBlock_102 : decode cX2_readBlock 102 = .ok (.if_icmp .ne 9, 3) := by decide +kernel
theorem dX2_readBlock_105 : decode cX2_readBlock 105 = .ok (.iload 9, 2) := by decide +kernel
theorem dX2_readBlock_107 : decode cX2_readBlock 107 = .ok (.ineg, 1) := by decide +kernel
theorem dX2_readBlock_108 : decode cX2_readBlock 108 = .ok (.goto 5, 3) := by decide +kernel
theorem dX2_readBlock_111 : decode cX2_readBlock 111 = .ok (.iload 9, 2) := by decide +kernel
theorem dX2_readBlock_113 : decode cX2_readBlock 113 = .ok (.iastore, 1) := by decide +kernel
theorem dX2_readBlock_114 : decode cX2_readBlock 114 = .ok (.iload 9, 2) := by decide +kernel
theorem dX2_readBlock_116 : decode cX2_readBlock 116 = .ok (.iconst 2, 1) := by decide +kernel
theorem dX2_readBlock_117 : decode cX2_readBlock 117 = .ok (.invokestatic 37, 3) := by decide +kernel
theorem dX2_readBlock_120 : decode cX2_readBlock 120 = .ok (.istore 5, 2) := by decide +kernel
theorem dX2_readBlock_122 : decode cX2_readBlock 122 = .ok (.iload 9, 2) := by decide +kernel
theorem dX2_readBlock_124 : decode cX2_readBlock 124 = .ok (.ifCond .eq 7, 3) := by decide +kernel
theorem dX2_readBlock_127 : decode cX2_readBlock 127 = .ok (.iconst 1, 1) := by decide +kernel
theorem dX2_readBlock_128 : decode cX2_readBlock 128 = .ok (.goto 4, 3) := by decide +kernel
theorem dX2_readBlock_131 : decode cX2_readBlock 131 = .ok (.iconst 0, 1) := by decide +kernel
theorem dX2_readBlock_132 : decode cX2_readBlock 132 = .ok (.istore 6, 2) := by decide +kernel
theorem dX2_readBlock_134 : decode cX2_readBlock 134 = .ok (.iinc 7 1, 3) := by decide +kernel
theorem dX2_readBlock_137 : decode cX2_readBlock 137 = .ok (.goto (-128), 3) := by decide +kernel
theorem dX2_readBlock_140 : decode cX2_readBlock 140 = .ok (.bipush 16, 2) := by decide +kernel
theorem dX2_readBlock_142 : decode cX2_readBlock 142 = .ok (.ireturn, 1) := by decide +kernel
theorem dX2_readSize_0 : decode cX2_readSize 0 = .ok (.aload_n 1, 1) := by decide +kernel
theorem dX2_readSize_1 : decode cX2_readSize 1 = .ok (.aload_n 0, 1) := by decide +kernel
theorem dX2_readSize_2 : decode cX2_readSize 2 = .ok (.getfield 9, 3) := by decide +kernel
theorem dX2_readSize_5 : decode cX2_readSize 5 = .ok (.iload_n 2, 1) := by decide +kernel
theorem dX2_readSize_6 : decode cX2_readSize 6 = .ok (.iconst 2, 1) := by decide +kernel
theorem dX2_readSize_7 : decode cX2_readSize 7 = .ok (.iadd, 1) := by decide +kernel
theorem dX2_readSize_8 : decode cX2_readSize 8 = .ok (.iaload, 1) := by decide +kernel
theorem dX2_readSize_9 : decode cX2_readSize 9 = .ok (.invokevirtual 13, 3) := by decide +kernel
theorem dX2_readSize_12 : decode cX2_readSize 12 = .ok (.ifCond .ne 5, 3) := by decide +kernel
theorem dX2_readSize_15 : decode cX2_readSize 15 = .ok (.iconst 1, 1) := by decide +kernel
theorem dX2_readSize_16 : decode cX2_readSize 16 = .ok (.ireturn, 1) := by decide +kernel
theorem dX2_readSize_17 : decode cX2_readSize 17 = .ok (.aload_n 1, 1) := by decide +kernel
theorem dX2_readSize_18 : decode cX2_readSize 18 = .ok (.aload_n 0, 1) := by decide +kernel
theorem dX2_readSize_19 : decode cX2_readSize 19 = .ok (.getfield 9, 3) := by decide +kernel
theorem dX2_readSize_22 : decode cX2_readSize 22 = .ok (.iload_n 2, 1) := by decide +kernel
theorem dX2_readSize_23 : decode cX2_readSize 23 = .ok (.iconst 3, 1) := by decide +kernel
theorem dX2_readSize_24 : decode cX2_readSize 24 = .ok (.iadd, 1) := by decide +kernel
theorem dX2_readSize_25 : decode cX2_readSize 25 = .ok (.iaload, 1) := by decide +kernel
theorem dX2_readSize_26 : decode cX2_readSize 26 = .ok (.invokevirtual 13, 3) := by decide +kernel
theorem dX2_readSize_29 : decode cX2_readSize 29 = .ok (.iconst 1, 1) := by decide +kernel
theorem dX2_readSize_30 : decode cX2_readSize 30 = .ok (.if_icmp .ne 14, 3) := by decide +kernel
theorem dX2_readSize_33 : decode cX2_readSize 33 = .ok (.aload_n 1, 1) := by decide +kernel
theorem dX2_readSize_34 : decode cX2_readSize 34 = .ok (.aload_n 0, 1) := by decide +kernel
theorem dX2_readSize_35 : decode cX2_readSize 35 = .ok (.aload_n 1, 1) := by decide +kernel
theorem dX2_readSize_36 : decode cX2_readSize 36 = .ok (.iload_n 2, 1) := by decide +kernel
theorem dX2_readSize_37 : decode cX2_readSize 37 = .ok (.invokevirtual 40, 3) := by decide +kernel
theorem dX2_readSize_40 : decode cX2_readSize 40 = .ok (.invokestatic 43, 3) := by decide +kernel
theorem dX2_readSize_43 : decode cX2_readSize 43 = .ok (.ireturn, 1) := by decide +kernel
theorem dX2_readSize_44 : decode cX2_readSize 44 = .ok (.aload_n 1, 1) := by decide +kernel
theorem dX2_readSize_45 : decode cX2_readSize 45 = .ok (.aload_n 0, 1) := by decide +kernel
theorem dX2_readSize_46 : decode cX2_readSize 46 = .ok (.getfield 9, 3) := by decide +kernel
theorem dX2_readSize_49 : decode cX2_readSize 49 = .ok (.iload_n 2, 1) := by decide +kernel
theorem dX2_readSize_50 : decode cX2_readSize 50 = .ok (.iconst 4, 1) := by decide +kernel
theorem dX2_readSize_51 : decode cX2_readSize 51 = .ok (.iadd, 1) := by decide +kernel
theorem dX2_readSize_52 : decode cX2_readSize 52 = .ok (.iaload, 1) := by decide +kernel
theorem dX2_readSize_53 : decode cX2_readSize 53 = .ok (.invokevirtual 13, 3) := by decide +kernel
theorem dX2_readSize_56 : decode cX2_readSize 56 = .ok (.ifCond .ne 5, 3) := by decide +kernel
theorem dX2_readSize_59 : decode cX2_readSize 59 = .ok (.iconst 2, 1) := by decide +kernel
theorem dX2_readSize_60 : decode cX2_readSize 60 = .ok (.ireturn, 1) := by decide +kernel
theorem dX2_readSize_61 : decode cX2_readSize 61 = .ok (.iconst 3, 1) := by decide +kernel
theorem dX2_readSize_62 : decode cX2_readSize 62 = .ok (.aload_n 1, 1) := by decide +kernel
theorem dX2_readSize_63 : decode cX2_readSize 63 = .ok (.aload_n 0, 1) := by decide +kernel
theorem dX2_readSize_64 : decode cX2_readSize 64 = .ok (.getfield 9, 3) := by decide +kernel
theorem dX2_readSize_67 : decode cX2_readSize 67 = .ok (.iload_n 2, 1) := by decide +kernel
theorem dX2_readSize_68 : decode cX2_readSize 68 = .ok (.iconst 5, 1) := by decide +kernel
theorem dX2_readSize_69 : decode cX2_readSize 69 = .ok (.iadd, 1) := by decide +kernel
theorem dX2_readSize_70 : decode cX2_readSize 70 = .ok (.iaload, 1) := by decide +kernel
theorem dX2_readSize_71 : decode cX2_readSize 71 = .ok (.invokevirtual 13, 3) := by decide +kernel
theorem dX2_readSize_74 : decode cX2_readSize 74 = .ok (.iadd, 1) := by decide +kernel
theorem dX2_readSize_75 : decode cX2_readSize 75 = .ok (.ireturn, 1) := by decide +kernel
theorem dX2_readSizeClass_0 : decode cX2_readSizeClass 0 = .ok (.aload_n 1, 1) := by decide +kernel
theorem dX2_readSizeClass_1 : decode cX2_readSizeClass 1 = .ok (.aload_n 0, 1) := by decide +kernel
theorem dX2_readSizeClass_2 : decode cX2_readSizeClass 2 = .ok (.getfield 9, 3) := by decide +kernel
theorem dX2_readSizeClass_5 : decode cX2_readSizeClass 5 = .ok (.iload_n 2, 1) := by decide +kernel
theorem dX2_readSizeClass_6 : decode cX2_readSizeClass 6 = .ok (.bipush 6, 2) := by decide +kernel
theorem dX2_readSizeClass_8 : decode cX2_readSizeClass 8 = .ok (.iadd, 1) := by decide +kernel
theorem dX2_readSizeClass_9 : decode cX2_readSizeClass 9 = .ok (.iaload, 1) := by decide +kernel
theorem dX2_readSizeClass_10 : decode cX2_readSizeClass 10 = .ok (.invokevirtual 13, 3) := by decide +kernel
theorem dX2_readSizeClass_13 : decode cX2_readSizeClass 13 = .ok (.ifCond .ne 17, 3) := by decide +kernel
theorem dX2_readSizeClass_16 : decode cX2_readSizeClass 16 = .ok (.aload_n 1, 1) := by decide +kernel
theorem dX2_readSizeClass_17 : decode cX2_readSizeClass 17 = .ok (.aload_n 0, 1) := by decide +kernel
theorem dX2_readSizeClass_18 : decode cX2_readSizeClass 18 = .ok (.getfield 9, 3) := by decide +kernel
theorem dX2_readSizeClass_21 : decode cX2_readSizeClass 21 = .ok (.iload_n 2, 1) := by decide +kernel
theorem dX2_readSizeClass_22 : decode cX2_readSizeClass 22 = .ok (.bipush 7, 2) := by decide +kernel
theorem dX2_readSizeClass_24 : decode cX2_readSizeClass 24 = .ok (.iadd, 1) := by decide +kernel
theorem dX2_readSizeClass_25 : decode cX2_readSizeClass 25 = .ok (.iaload, 1) := by decide +kernel
theorem dX2_readSizeClass_26 : decode cX2_readSizeClass 26 = .ok (.invokevirtual 13, 3) := by decide +kernel
theorem dX2_readSizeClass_29 : decode cX2_readSizeClass 29 = .ok (.ireturn, 1) := by decide +kernel
theorem dX2_readSizeClass_30 : decode cX2_readSizeClass 30 = .ok (.aload_n 1, 1) := by decide +kernel
theorem dX2_readSizeClass_31 : decode cX2_readSizeClass 31 = .ok (.aload_n 0, 1) := by decide +kernel
theorem dX2_readSizeClass_32 : decode cX2_readSizeClass 32 = .ok (.getfield 9, 3) := by decide +kernel
theorem dX2_readSizeClass_35 : decode cX2_readSizeClass 35 = .ok (.iload_n 2, 1) := by decide +kernel
theorem dX2_readSizeClass_36 : decode cX2_readSizeClass 36 = .ok (.bipush 8, 2) := by decide +kernel
theorem dX2_readSizeClass_38 : decode cX2_readSizeClass 38 = .ok (.iadd, 1) := by decide +kernel
theorem dX2_readSizeClass_39 : decode cX2_readSizeClass 39 = .ok (.iaload, 1) := by decide +kernel
theorem dX2_readSizeClass_40 : decode cX2_readSizeClass 40 = .ok (.invokevirtual 13, 3) := by decide +kernel
theorem dX2_readSizeClass_43 : decode cX2_readSizeClass 43 = .ok (.ifCond .ne 19, 3) := by decide +kernel
theorem dX2_readSizeClass_46 : decode cX2_readSizeClass 46 = .ok (.iconst 2, 1) := by decide +kernel
theorem dX2_readSizeClass_47 : decode cX2_readSizeClass 47 = .ok (.aload_n 1, 1) := by decide +kernel
theorem dX2_readSizeClass_48 : decode cX2_readSizeClass 48 = .ok (.aload_n 0, 1) := by decide +kernel
theorem dX2_readSizeClass_49 : decode cX2_readSizeClass 49 = .ok (.getfield 9, 3) := by decide +kernel
theorem dX2_readSizeClass_52 : decode cX2_readSizeClass 52 = .ok (.iload_n 2, 1) := by decide +kernel
theorem dX2_readSizeClass_53 : decode cX2_readSizeClass 53 = .ok (.bipush 9, 2) := by decide +kernel
theorem dX2_readSizeClass_55 : decode cX2_readSizeClass 55 = .ok (.iadd, 1) := by decide +kernel
theorem dX2_readSizeClass_56 : decode cX2_readSizeClass 56 = .ok (.iaload, 1) := by decide +kernel
theorem dX2_readSizeClass_57 : decode cX2_readSizeClass 57 = .ok (.invokevirtual 13, 3) := by decide +kernel
theorem dX2_readSizeClass_60 : decode cX2_readSizeClass 60 = .ok (.iadd, 1) := by decide +kernel
theorem dX2_readSizeClass_61 : decode cX2_readSizeClass 61 = .ok (.ireturn, 1) := by decide +kernel
theorem dX2_readSizeClass_62 : decode cX2_readSizeClass 62 = .ok (.iconst 4, 1) := by decide +kernel
theorem dX2_readSizeClass_63 : decode cX2_readSizeClass 63 = .ok (.aload_n 1, 1) := by decide +kernel
theorem dX2_readSizeClass_64 : decode cX2_readSizeClass 64 = .ok (.aload_n 0, 1) := by decide +kernel
theorem dX2_readSizeClass_65 : decode cX2_readSizeClass 65 = .ok (.getfield 9, 3) := by decide +kernel
theorem dX2_readSizeClass_68 : decode cX2_readSizeClass 68 = .ok (.iload_n 2, 1) := by decide +kernel
theorem dX2_readSizeClass_69 : decode cX2_readSizeClass 69 = .ok (.bipush 10, 2) := by decide +kernel
theorem dX2_readSizeClass_71 : decode cX2_readSizeClass 71 = .ok (.iadd, 1) := by decide +kernel
theorem dX2_readSizeClass_72 : decode cX2_readSizeClass 72 = .ok (.iaload, 1) := by decide +kernel
theorem dX2_readSizeClass_73 : decode cX2_readSizeClass 73 = .ok (.invokevirtual 13, 3) := by decide +kernel
theorem dX2_readSizeClass_76 : decode cX2_readSizeClass 76 = .ok (.iadd, 1) := by decide +kernel
theorem dX2_readSizeClass_77 : decode cX2_readSizeClass 77 = .ok (.ireturn, 1) := by decide +kernel
theorem dX2_readLargeSize_0 : decode cX2_readLargeSize 0 = .ok (.iconst 0, 1) := by decide +kernel
theorem dX2_readLargeSize_1 : decode cX2_readLargeSize 1 = .ok (.istore_n 2, 1) := by decide +kernel
theorem dX2_readLargeSize_2 : decode cX2_readLargeSize 2 = .ok (.getstatic 46, 3) := by decide +kernel
theorem dX2_readLargeSize_5 : decode cX2_readLargeSize 5 = .ok (.iload_n 1, 1) := by decide +kernel
theorem dX2_readLargeSize_6 : decode cX2_readLargeSize 6 = .ok (.iaload, 1) := by decide +kernel
theorem dX2_readLargeSize_7 : decode cX2_readLargeSize 7 = .ok (.istore_n 3, 1) := by decide +kernel
theorem dX2_readLargeSize_8 : decode cX2_readLargeSize 8 = .ok (.iload_n 3, 1) := by decide +kernel
theorem dX2_readLargeSize_9 : decode cX2_readLargeSize 9 = .ok (.getstatic 46, 3) := by decide +kernel
theorem dX2_readLargeSize_12 : decode cX2_readLargeSize 12 = .ok (.iload_n 1, 1) := by decide +kernel
theorem dX2_readLargeSize_13 : decode cX2_readLargeSize 13 = .ok (.iconst 1, 1) := by decide +kernel
theorem dX2_readLargeSize_14 : decode cX2_readLargeSize 14 = .ok (.iadd, 1) := by decide +kernel
theorem dX2_readLargeSize_15 : decode cX2_readLargeSize 15 = .ok (.iaload, 1) := by decide +kernel
theorem dX2_readLargeSize_16 : decode cX2_readLargeSize 16 = .ok (.if_icmp .ge 23, 3) := by decide +kernel
theorem dX2_readLargeSize_19 : decode cX2_readLargeSize 19 = .ok (.iload_n 2, 1) := by decide +kernel
theorem dX2_readLargeSize_20 : decode cX2_readLargeSize 20 = .ok (.iconst 1, 1) := by decide +kernel
theorem dX2_readLargeSize_21 : decode cX2_readLargeSize 21 = .ok (.ishl, 1) := by decide +kernel
theorem dX2_readLargeSize_22 : decode cX2_readLargeSize 22 = .ok (.aload_n 0, 1) := by decide +kernel
theorem dX2_readLargeSize_23 : decode cX2_readLargeSize 23 = .ok (.getstatic 49, 3) := by decide +kernel
theorem dX2_readLargeSize_26 : decode cX2_readLargeSize 26 = .ok (.iload_n 3, 1) := by decide +kernel
theorem dX2_readLargeSize_27 : decode cX2_readLargeSize 27 = .ok (.iaload, 1) := by decide +kernel
theorem dX2_readLargeSize_28 : decode cX2_readLargeSize 28 = .ok (.invokevirtual 13, 3) := by decide +kernel
theorem dX2_readLargeSize_31 : decode cX2_readLargeSize 31 = .ok (.ior, 1) := by decide +kernel
theorem dX2_readLargeSize_32 : decode cX2_readLargeSize 32 = .ok (.istore_n 2, 1) := by decide +kernel
theorem dX2_readLargeSize_33 : decode cX2_readLargeSize 33 = .ok (.iinc 3 1, 3) := by decide +kernel
theorem dX2_readLargeSize_36 : decode cX2_readLargeSize 36 = .ok (.goto (-28), 3) := by decide +kernel
theorem dX2_readLargeSize_39 : decode cX2_readLargeSize 39 = .ok (.getstatic 52, 3) := by decide +kernel
theorem dX2_readLargeSize_42 : decode cX2_readLargeSize 42 = .ok (.iload_n 1, 1) := by decide +kernel
theorem dX2_readLargeSize_43 : decode cX2_readLargeSize 43 = .ok (.iaload, 1) := by decide +kernel
theorem dX2_readLargeSize_44 : decode cX2_readLargeSize 44 = .ok (.iload_n 2, 1) := by decide +kernel
theorem dX2_readLargeSize_45 : decode cX2_readLargeSize 45 = .ok (.iadd, 1) := by decide +kernel
theorem dX2_readLargeSize_46 : decode cX2_readLargeSize 46 = .ok (.ireturn, 1) := by decide +kernel
theorem dX3_init_0 : decode cX3_init 0 = .ok (.aload_n 0, 1) := by decide +kernel
theorem dX3_init_1 : decode cX3_init 1 = .ok (.invokespecial 3, 3) := by decide +kernel
theorem dX3_init_4 : decode cX3_init 4 = .ok (.aload_n 0, 1) := by decide +kernel
theorem dX3_init_5 : decode cX3_init 5 = .ok (.sipush 600, 3) := by decide +kernel
theorem dX3_init_8 : decode cX3_init 8 = .ok (.newarray .int, 2) := by decide +kernel
theorem dX3_init_10 : decode cX3_init 10 = .ok (.putfield 9, 3) := by decide +kernel
theorem dX3_init_13 : decode cX3_init 13 = .ok (.aload_n 0, 1) := by decide +kernel
theorem dX3_init_14 : decode cX3_init 14 = .ok (.iconst 0, 1) := by decide +kernel
theorem dX3_init_15 : decode cX3_init 15 = .ok (.putfield 15, 3) := by decide +kernel
theorem dX3_init_18 : decode cX3_init 18 = .ok (.return_, 1) := by decide +kernel
theorem dX3_size_0 : decode cX3_size 0 = .ok (.aload_n 0, 1) := by decide +kernel
theorem dX3_size_1 : decode cX3_size 1 = .ok (.getfield 15, 3) := by decide +kernel
theorem dX3_size_4 : decode cX3_size 4 = .ok (.ireturn, 1) := by decide +kernel
theorem dX3_clear_0 : decode cX3_clear 0 = .ok (.aload_n 0, 1) := by decide +kernel
theorem dX3_clear_1 : decode cX3_clear 1 = .ok (.iconst 0, 1) := by decide +kernel
theorem dX3_clear_2 : decode cX3_clear 2 = .ok (.putfield 15, 3) := by decide +kernel
theorem dX3_clear_5 : decode cX3_clear 5 = .ok (.return_, 1) := by decide +kernel
theorem dX3_append_0 : decode cX3_append 0 = .ok (.aload_n 0, 1) := by decide +kernel
theorem dX3_append_1 : decode cX3_append 1 = .ok (.getfield 15, 3) := by decide +kernel
theorem dX3_append_4 : decode cX3_append 4 = .ok (.sipush 600, 3) := by decide +kernel
theorem dX3_append_7 : decode cX3_append 7 = .ok (.if_icmp .ge 27, 3) := by decide +kernel
theorem dX3_append_10 : decode cX3_append 10 = .ok (.aload_n 0, 1) := by decide +kernel
theorem dX3_append_11 : decode cX3_append 11 = .ok (.getfield 9, 3) := by decide +kernel
theorem dX3_append_14 : decode cX3_append 14 = .ok (.aload_n 0, 1) := by decide +kernel
theorem dX3_append_15 : decode cX3_append 15 = .ok (.getfield 15, 3) := by decide +kernel
theorem dX3_append_18 : decode cX3_append 18 = .ok (.iload_n 1, 1) := by decide +kernel
theorem dX3_append_19 : decode cX3_append 19 = .ok (.sipush 255, 3) := by decide +kernel
theorem dX3_append_22 : decode cX3_append 22 = .ok (.iand, 1) := by decide +kernel
theorem dX3_append_23 : decode cX3_append 23 = .ok (.iastore, 1) := by decide +kernel
theorem dX3_append_24 : decode cX3_append 24 = .ok (.aload_n 0, 1) := by decide +kernel
theorem dX3_append_25 : decode cX3_append 25 = .ok (.dup, 1) := by decide +kernel
theorem dX3_append_26 : decode cX3_append 26 = .ok (.getfield 15, 3) := by decide +kernel
theorem dX3_append_29 : decode cX3_append 29 = .ok (.iconst 1, 1) := by decide +kernel
theorem dX3_append_30 : decode cX3_append 30 = .ok (.iadd, 1) := by decide +kernel
theorem dX3_append_31 : decode cX3_append 31 = .ok (.putfield 15, 3) := by decide +kernel
theorem dX3_append_34 : decode cX3_append 34 = .ok (.return_, 1) := by decide +kernel
theorem dX3_at_0 : decode cX3_at 0 = .ok (.iload_n 1, 1) := by decide +kernel
theorem dX3_at_1 : decode cX3_at 1 = .ok (.ifCond .lt 20, 3) := by decide +kernel
theorem dX3_at_4 : decode cX3_at 4 = .ok (.iload_n 1, 1) := by decide +kernel
theorem dX3_at_5 : decode cX3_at 5 = .ok (.aload_n 0, 1) := by decide +kernel
theorem dX3_at_6 : decode cX3_at 6 = .ok (.getfield 15, 3) := by decide +kernel
theorem dX3_at_9 : decode cX3_at 9 = .ok (.if_icmp .ge 12, 3) := by decide +kernel
theorem dX3_at_12 : decode cX3_at 12 = .ok (.aload_n 0, 1) := by decide +kernel
theorem dX3_at_13 : decode cX3_at 13 = .ok (.getfield 9, 3) := by decide +kernel
theorem dX3_at_16 : decode cX3_at 16 = .ok (.iload_n 1, 1) := by decide +kernel
theorem dX3_at_17 : decode cX3_at 17 = .ok (.iaload, 1) := by decide +kernel
theorem dX3_at_18 : decode cX3_at 18 = .ok (.goto 4, 3) := by decide +kernel
theorem dX3_at_21 : decode cX3_at 21 = .ok (.iconst 0, 1) := by decide +kernel
theorem dX3_at_22 : decode cX3_at 22 = .ok (.ireturn, 1) := by decide +kernel
theorem dX3_addOneToLast_0 : decode cX3_addOneToLast 0 = .ok (.aload_n 0, 1) := by decide +kernel
theorem dX3_addOneToLast_1 : decode cX3_addOneToLast 1 = .ok (.getfield 15, 3) := by decide +kernel
theorem dX3_addOneToLast_4 : decode cX3_addOneToLast 4 = .ok (.iconst 1, 1) := by decide +kernel
theorem dX3_addOneToLast_5 : decode cX3_addOneToLast 5 = .ok (.isub, 1) := by decide +kernel
theorem dX3_addOneToLast_6 : decode cX3_addOneToLast 6 = .ok (.istore_n 1, 1) := by decide +kernel
theorem dX3_addOneToLast_7 : decode cX3_addOneToLast 7 = .ok (.iload_n 1, 1) := by decide +kernel
theorem dX3_addOneToLast_8 : decode cX3_addOneToLast 8 = .ok (.ifCond .lt 28, 3) := by decide +kernel
theorem dX3_addOneToLast_11 : decode cX3_addOneToLast 11 = .ok (.aload_n 0, 1) := by decide +kernel
theorem dX3_addOneToLast_12 : decode cX3_addOneToLast 12 = .ok (.getfield 9, 3) := by decide +kernel
theorem dX3_addOneToLast_15 : decode cX3_addOneToLast 15 = .ok (.iload_n 1, 1) := by decide +kernel
theorem dX3_addOneToLast_16 : decode cX3_addOneToLast 16 = .ok (.iaload, 1) := by decide +kernel
theorem dX3_addOneToLast_17 : decode cX3_addOneToLast 17 = .ok (.sipush 255, 3) := by decide +kernel
theorem dX3_addOneToLast_20 : decode cX3_addOneToLast 20 = .ok (.if_icmp .ne 16, 3) := by decide +kernel
theorem dX3_addOneToLast_23 : decode cX3_addOneToLast 23 = .ok (.aload_n 0, 1) := by decide +kernel
theorem dX3_addOneToLast_24 : decode cX3_addOneToLast 24 = .ok (.getfield 9, 3) := by decide +kernel
theorem dX3_addOneToLast_27 : decode cX3_addOneToLast 27 = .ok (.iload_n 1, 1) := by decide +kernel
theorem dX3_addOneToLast_28 : decode cX3_addOneToLast 28 = .ok (.iconst 0, 1) := by decide +kernel
theorem dX3_addOneToLast_29 : decode cX3_addOneToLast 29 = .ok (.iastore, 1) := by decide +kernel
theorem dX3_addOneToLast_30 : decode cX3_addOneToLast 30 = .ok (.iinc 1 (-1), 3) := by decide +kernel
theorem dX3_addOneToLast_33 : decode cX3_addOneToLast 33 = .ok (.goto (-26), 3) := by decide +kernel
theorem dX3_addOneToLast_36 : decode cX3_addOneToLast 36 = .ok (.iload_n 1, 1) := by decide +kernel
theorem dX3_addOneToLast_37 : decode cX3_addOneToLast 37 = .ok (.ifCond .lt 13, 3) := by decide +kernel
theorem dX3_addOneToLast_40 : decode cX3_addOneToLast 40 = .ok (.aload_n 0, 1) := by decide +kernel
theorem dX3_addOneToLast_41 : decode cX3_addOneToLast 41 = .ok (.getfield 9, 3) := by decide +kernel
theorem dX3_addOneToLast_44 : decode cX3_addOneToLast 44 = .ok (.iload_n 1, 1) := by decide +kernel
theorem dX3_addOneToLast_45 : decode cX3_addOneToLast 45 = .ok (.dup2, 1) := by decide +kernel
theorem dX3_addOneToLast_46 : decode cX3_addOneToLast 46 = .ok (.iaload, 1) := by decide +kernel
theorem dX3_addOneToLast_47 : decode cX3_addOneToLast 47 = .ok (.iconst 1, 1) := by decide +kernel
theorem dX3_addOneToLast_48 : decode cX3_addOneToLast 48 = .ok (.iadd, 1) := by decide +kernel
theorem dX3_addOneToLast_49 : decode cX3_addOneToLast 49 = .ok (.iastore, 1) := by decide +kernel
theorem dX3_addOneToLast_50 : decode cX3_addOneToLast 50 = .ok (.return_, 1) := by decide +kernel
theorem dX4_init_0 : decode cX4_init 0 = .ok (.aload_n 0, 1) := by decide +kernel
theorem dX4_init_1 : decode cX4_init 1 = .ok (.invokespecial 3, 3) := by decide +kernel
theorem dX4_init_4 : decode cX4_init 4 = .ok (.aload_n 0, 1) := by decide +kernel
theorem dX4_init_5 : decode cX4_init 5 = .ok (.new 9, 3) := by decide +kernel
theorem dX4_init_8 : decode cX4_init 8 = .ok (.dup, 1) := by decide +kernel
theorem dX4_init_9 : decode cX4_init 9 = .ok (.invokespecial 11, 3) := by decide +kernel
theorem dX4_init_12 : decode cX4_init 12 = .ok (.putfield 12, 3) := by decide +kernel
theorem dX4_init_15 : decode cX4_init 15 = .ok (.aload_n 0, 1) := by decide +kernel
theorem dX4_init_16 : decode cX4_init 16 = .ok (.new 18, 3) := by decide +kernel
theorem dX4_init_19 : decode cX4_init 19 = .ok (.dup, 1) := by decide +kernel
theorem dX4_init_20 : decode cX4_init 20 = .ok (.invokespecial 20, 3) := by decide +kernel
theorem dX4_init_23 : decode cX4_init 23 = .ok (.putfield 21, 3) := by decide +kernel
theorem dX4_init_26 : decode cX4_init 26 = .ok (.aload_n 0, 1) := by decide +kernel
theorem dX4_init_27 : decode cX4_init 27 = .ok (.new 25, 3) := by decide +kernel
theorem dX4_init_30 : decode cX4_init 30 = .ok (.dup, 1) := by decide +kernel
theorem dX4_init_31 : decode cX4_init 31 = .ok (.invokespecial 27, 3) := by decide +kernel
theorem dX4_init_34 : decode cX4_init 34 = .ok (.putfield 28, 3) := by decide +kernel
theorem dX4_init_37 : decode cX4_init 37 = .ok (.aload_n 0, 1) := by decide +kernel
theorem dX4_init_38 : decode cX4_init 38 = .ok (.bipush 16, 2) := by decide +kernel
theorem dX4_init_40 : decode cX4_init 40 = .ok (.newarray .int, 2) := by decide +kernel
theorem dX4_init_42 : decode cX4_init 42 = .ok (.putfield 32, 3) := by decide +kernel
theorem dX4_init_45 : decode cX4_init 45 = .ok (.aload_n 0, 1) := by decide +kernel
theorem dX4_init_46 : decode cX4_init 46 = .ok (.bipush 16, 2) := by decide +kernel
theorem dX4_init_48 : decode cX4_init 48 = .ok (.newarray .int, 2) := by decide +kernel
theorem dX4_init_50 : decode cX4_init 50 = .ok (.putfield 36, 3) := by decide +kernel
theorem dX4_init_53 : decode cX4_init 53 = .ok (.aload_n 0, 1) := by decide +kernel
theorem dX4_init_54 : decode cX4_init 54 = .ok (.sipush 256, 3) := by decide +kernel
theorem dX4_init_57 : decode cX4_init 57 = .ok (.newarray .int, 2) := by decide +kernel
theorem dX4_init_59 : decode cX4_init 59 = .ok (.putfield 39, 3) := by decide +kernel
theorem dX4_init_62 : decode cX4_init 62 = .ok (.aload_n 0, 1) := by decide +kernel
theorem dX4_init_63 : decode cX4_init 63 = .ok (.bipush 16, 2) := by decide +kernel
theorem dX4_init_65 : decode cX4_init 65 = .ok (.newarray .boolean, 2) := by decide +kernel
theorem dX4_init_67 : decode cX4_init 67 = .ok (.putfield 42, 3) := by decide +kernel
theorem dX4_init_70 : decode cX4_init 70 = .ok (.aload_n 0, 1) := by decide +kernel
theorem dX4_init_71 : decode cX4_init 71 = .ok (.iconst 0, 1) := by decide +kernel
theorem dX4_init_72 : decode cX4_init 72 = .ok (.putfield 46, 3) := by decide +kernel
theorem dX4_init_75 : decode cX4_init 75 = .ok (.aload_n 0, 1) := by decide +kernel
theorem dX4_init_76 : decode cX4_init 76 = .ok (.iconst 0, 1) := by decide +kernel
theorem dX4_init_77 : decode cX4_init 77 = .ok (.putfield 50, 3) := by decide +kernel
theorem dX4_init_80 : decode cX4_init 80 = .ok (.aload_n 0, 1) := by decide +kernel
theorem dX4_init_81 : decode cX4_init 81 = .ok (.iconst 0, 1) := by decide +kernel
theorem dX4_init_82 : decode cX4_init 82 = .ok (.putfield 53, 3) := by decide +kernel
theorem dX4_init_85 : decode cX4_init 85 = .ok (.aload_n 0, 1) := by decide +kernel
theorem dX4_init_86 : decode cX4_init 86 = .ok (.iconst 0, 1) := by decide +kernel
theorem dX4_init_87 : decode cX4_init 87 = .ok (.putfield 56, 3) := by decide +kernel
theorem dX4_init_90 : decode cX4_init 90 = .ok (.aload_n 0, 1) := by decide +kernel
theorem dX4_init_91 : decode cX4_init 91 = .ok (.iconst 0, 1) := by decide +kernel
theorem dX4_init_92 : decode cX4_init 92 = .ok (.putfield 59, 3) := by decide +kernel
theorem dX4_init_95 : decode cX4_init 95 = .ok (.aload_n 0, 1) := by decide +kernel
theorem dX4_init_96 : decode cX4_init 96 = .ok (.iconst 0, 1) := by decide +kernel
theorem dX4_init_97 : decode cX4_init 97 = .ok (.putfield 62, 3) := by decide +kernel
theorem dX4_init_100 : decode cX4_init 100 = .ok (.aload_n 0, 1) := by decide +kernel
theorem dX4_init_101 : decode cX4_init 101 = .ok (.iconst 0, 1) := by decide +kernel
theorem dX4_init_102 : decode cX4_init 102 = .ok (.putfield 65, 3) := by decide +kernel
theorem dX4_init_105 : decode cX4_init 105 = .ok (.return_, 1) := by decide +kernel
theorem dX4_readFrom_0 : decode cX4_readFrom 0 = .ok (.aload_n 0, 1) := by decide +kernel
theorem dX4_readFrom_1 : decode cX4_readFrom 1 = .ok (.iconst 1, 1) := by decide +kernel
theorem dX4_readFrom_2 : decode cX4_readFrom 2 = .ok (.aload_n 1, 1) := by decide +kernel
theorem dX4_readFrom_3 : decode cX4_readFrom 3 = .ok (.iconst 2, 1) := by decide +kernel
theorem dX4_readFrom_4 : decode cX4_readFrom 4 = .ok (.invokevirtual 68, 3) := by decide +kernel
theorem dX4_readFrom_7 : decode cX4_readFrom 7 = .ok (.iadd, 1) := by decide +kernel
theorem dX4_readFrom_8 : decode cX4_readFrom 8 = .ok (.putfield 46, 3) := by decide +kernel
theorem dX4_readFrom_11 : decode cX4_readFrom 11 = .ok (.aload_n 0, 1) := by decide +kernel
theorem dX4_readFrom_12 : decode cX4_readFrom 12 = .ok (.iconst 1, 1) := by decide +kernel
theorem dX4_readFrom_13 : decode cX4_readFrom 13 = .ok (.aload_n 1, 1) := by decide +kernel
theorem dX4_readFrom_14 : decode cX4_readFrom 14 = .ok (.iconst 2, 1) := by decide +kernel
theorem dX4_readFrom_15 : decode cX4_readFrom 15 = .ok (.invokevirtual 68, 3) := by decide +kernel
theorem dX4_readFrom_18 : decode cX4_readFrom 18 = .ok (.iadd, 1) := by decide +kernel
theorem dX4_readFrom_19 : decode cX4_readFrom 19 = .ok (.putfield 50, 3) := by decide +kernel
theorem dX4_readFrom_22 : decode cX4_readFrom 22 = .ok (.aload_n 0, 1) := by decide +kernel
theorem dX4_readFrom_23 : decode cX4_readFrom 23 = .ok (.aload_n 1, 1) := by decide +kernel
theorem dX4_readFrom_24 : decode cX4_readFrom 24 = .ok (.bipush 7, 2) := by decide +kernel
theorem dX4_readFrom_26 : decode cX4_readFrom 26 = .ok (.invokevirtual 68, 3) := by decide +kernel
theorem dX4_readFrom_29 : decode cX4_readFrom 29 = .ok (.putfield 53, 3) := by decide +kernel
theorem dX4_readFrom_32 : decode cX4_readFrom 32 = .ok (.aload_n 0, 1) := by decide +kernel
theorem dX4_readFrom_33 : decode cX4_readFrom 33 = .ok (.aload_n 1, 1) := by decide +kernel
theorem dX4_readFrom_34 : decode cX4_readFrom 34 = .ok (.bipush 6, 2) := by decide +kernel
theorem dX4_readFrom_36 : decode cX4_readFrom 36 = .ok (.invokevirtual 68, 3) := by decide +kernel
theorem dX4_readFrom_39 : decode cX4_readFrom 39 = .ok (.putfield 56, 3) := by decide +kernel
theorem dX4_readFrom_42 : decode cX4_readFrom 42 = .ok (.aload_n 0, 1) := by decide +kernel
theorem dX4_readFrom_43 : decode cX4_readFrom 43 = .ok (.aload_n 0, 1) := by decide +kernel
theorem dX4_readFrom_44 : decode cX4_readFrom 44 = .ok (.getfield 12, 3) := by decide +kernel
theorem dX4_readFrom_47 : decode cX4_readFrom 47 = .ok (.aload_n 1, 1) := by decide +kernel
theorem dX4_readFrom_48 : decode cX4_readFrom 48 = .ok (.invokevirtual 74, 3) := by decide +kernel
theorem dX4_readFrom_51 : decode cX4_readFrom 51 = .ok (.putfield 59, 3) := by decide +kernel
theorem dX4_readFrom_54 : decode cX4_readFrom 54 = .ok (.iconst 0, 1) := by decide +kernel
theorem dX4_readFrom_55 : decode cX4_readFrom 55 = .ok (.istore_n 2, 1) := by decide +kernel
theorem dX4_readFrom_56 : decode cX4_readFrom 56 = .ok (.iload_n 2, 1) := by decide +kernel
theorem dX4_readFrom_57 : decode cX4_readFrom 57 = .ok (.aload_n 0, 1) := by decide +kernel
theorem dX4_readFrom_58 : decode cX4_readFrom 58 = .ok (.getfield 39, 3) := by decide +kernel
theorem dX4_readFrom_61 : decode cX4_readFrom 61 = .ok (.arraylength, 1) := by decide +kernel
theorem dX4_readFrom_62 : decode cX4_readFrom 62 = .ok (.if_icmp .ge 16, 3) := by decide +kernel
theorem dX4_readFrom_65 : decode cX4_readFrom 65 = .ok (.aload_n 0, 1) := by decide +kernel
theorem dX4_readFrom_66 : decode cX4_readFrom 66 = .ok (.getfield 39, 3) := by decide +kernel
theorem dX4_readFrom_69 : decode cX4_readFrom 69 = .ok (.iload_n 2, 1) := by decide +kernel
theorem dX4_readFrom_70 : decode cX4_readFrom 70 = .ok (.iconst 0, 1) := by decide +kernel
theorem dX4_readFrom_71 : decode cX4_readFrom 71 = .ok (.iastore, 1) := by decide +kernel
theorem dX4_readFrom_72 : decode cX4_readFrom 72 = .ok (.iinc 2 1, 3) := by decide +kernel
theorem dX4_readFrom_75 : decode cX4_readFrom 75 = .ok (.goto (-19), 3) := by decide +kernel
theorem dX4_readFrom_78 : decode cX4_readFrom 78 = .ok (.iconst 0, 1) := by decide +kernel
theorem dX4_readFrom_79 : decode cX4_readFrom 79 = .ok (.istore_n 2, 1) := by decide +kernel
theorem dX4_readFrom_80 : decode cX4_readFrom 80 = .ok (.iload_n 2, 1) := by decide +kernel
theorem dX4_readFrom_81 : decode cX4_readFrom 81 = .ok (.aload_n 0, 1) := by decide +kernel
theorem dX4_readFrom_82 : decode cX4_readFrom 82 = .ok (.getfield 50, 3) := by decide +kernel
theorem dX4_readFrom_85 : decode cX4_readFrom 85 = .ok (.if_icmp .ge 97, 3) := by decide +kernel
theorem dX4_readFrom_88 : decode cX4_readFrom 88 = .ok (.iconst 0, 1) := by decide +kernel
theorem dX4_readFrom_89 : decode cX4_readFrom 89 = .ok (.istore_n 3, 1) := by decide +kernel
theorem dX4_readFrom_90 : decode cX4_readFrom 90 = .ok (.iload_n 3, 1) := by decide +kernel
theorem dX4_readFrom_91 : decode cX4_readFrom 91 = .ok (.aload_n 0, 1) := by decide +kernel
theorem dX4_readFrom_92 : decode cX4_readFrom 92 = .ok (.getfield 46, 3) := by decide +kernel
theorem dX4_readFrom_95 : decode cX4_readFrom 95 = .ok (.if_icmp .ge 81, 3) := by decide +kernel
theorem dX4_readFrom_98 : decode cX4_readFrom 98 = .ok (.iload_n 2, 1) := by decide +kernel
theorem dX4_readFrom_99 : decode cX4_readFrom 99 = .ok (.aload_n 0, 1) := by decide +kernel
theorem dX4_readFrom_100 : decode cX4_readFrom 100 = .ok (.getfield 46, 3) := by decide +kernel
theorem dX4_readFrom_103 : decode cX4_readFrom 103 = .ok (.imul, 1) := by decide +kernel
theorem dX4_readFrom_104 : decode cX4_readFrom 104 = .ok (.iload_n 3, 1) := by decide +kernel
theorem dX4_readFrom_105 : decode cX4_readFrom 105 = .ok (.iadd, 1) := by decide +kernel
theorem dX4_readFrom_106 : decode cX4_readFrom 106 = .ok (.istore 4, 2) := by decide +kernel
theorem dX4_readFrom_108 : decode cX4_readFrom 108 = .ok (.aload_n 0, 1) := by decide +kernel
theorem dX4_readFrom_109 : decode cX4_readFrom 109 = .ok (.getfield 32, 3) := by decide +kernel
theorem dX4_readFrom_112 : decode cX4_readFrom 112 = .ok (.iload 4, 2) := by decide +kernel
theorem dX4_readFrom_114 : decode cX4_readFrom 114 = .ok (.aload_n 1, 1) := by decide +kernel
theorem dX4_readFrom_115 : decode cX4_readFrom 115 = .ok (.invokestatic 78, 3) := by decide +kernel
theorem dX4_readFrom_118 : decode cX4_readFrom 118 = .ok (.iastore, 1) := by decide +kernel
theorem dX4_readFrom_119 : decode cX4_readFrom 119 = .ok (.aload_n 0, 1) := by decide +kernel
theorem dX4_readFrom_120 : decode cX4_readFrom 120 = .ok (.getfield 36, 3) := by decide +kernel
theorem dX4_readFrom_123 : decode cX4_readFrom 123 = .ok (.iload 4, 2) := by decide +kernel
theorem dX4_readFrom_125 : decode cX4_readFrom 125 = .ok (.aload_n 0, 1) := by decide +kernel
theorem dX4_readFrom_126 : decode cX4_readFrom 126 = .ok (.getfield 12, 3) := by decide +kernel
theorem dX4_readFrom_129 : decode cX4_readFrom 129 = .ok (.aload_n 1, 1) := by decide +kernel
theorem dX4_readFrom_130 : decode cX4_readFrom 130 = .ok (.aload_n 0, 1) := by decide +kernel
theorem dX4_readFrom_131 : decode cX4_readFrom 131 = .ok (.iload_n 3, 1) := by decide +kernel
theorem dX4_readFrom_132 : decode cX4_readFrom 132 = .ok (.iload_n 2, 1) := by decide +kernel
theorem dX4_readFrom_133 : decode cX4_readFrom 133 = .ok (.invokevirtual 81, 3) := by decide +kernel
theorem dX4_readFrom_136 : decode cX4_readFrom 136 = .ok (.aload_n 0, 1) := by decide +kernel
theorem dX4_readFrom_137 : decode cX4_readFrom 137 = .ok (.getfield 39, 3) := by decide +kernel
theorem dX4_readFrom_140 : decode cX4_readFrom 140 = .ok (.iload 4, 2) := by decide +kernel
theorem dX4_readFrom_142 : decode cX4_readFrom 142 = .ok (.bipush 16, 2) := by decide +kernel
theorem dX4_readFrom_144 : decode cX4_readFrom 144 = .ok (.imul, 1) := by decide +kernel
theorem dX4_readFrom_145 : decode cX4_readFrom 145 = .ok (.invokevirtual 85, 3) := by decide +kernel
theorem dX4_readFrom_148 : decode cX4_readFrom 148 = .ok (.iastore, 1) := by decide +kernel
theorem dX4_readFrom_149 : decode cX4_readFrom 149 = .ok (.aload_n 0, 1) := by decide +kernel
theorem dX4_readFrom_150 : decode cX4_readFrom 150 = .ok (.getfield 42, 3) := by decide +kernel
theorem dX4_readFrom_153 : decode cX4_readFrom 153 = .ok (.iload 4, 2) := by decide +kernel
theorem dX4_readFrom_155 : decode cX4_readFrom 155 = .ok (.aload_n 0, 1) := by decide +kernel
theorem dX4_readFrom_156 : decode cX4_readFrom 156 = .ok (.iload 4, 2) := by decide +kernel
theorem dX4_readFrom_158 : decode cX4_readFrom 158 = .ok (.invokevirtual 89, 3) := by decide +kernel
theorem dX4_readFrom_161 : decode cX4_readFrom 161 = .ok (.bastore, 1) := by decide +kernel
theorem dX4_readFrom_162 : decode cX4_readFrom 162 = .ok (.aload_n 0, 1) := by decide +kernel
theorem dX4_readFrom_163 : decode cX4_readFrom 163 = .ok (.iload 4, 2) := by decide +kernel
theorem dX4_readFrom_165 : decode cX4_readFrom 165 = .ok (.iload_n 3, 1) := by decide +kernel
theorem dX4_readFrom_166 : decode cX4_readFrom 166 = .ok (.iload_n 2, 1) := by decide +kernel
theorem dX4_readFrom_167 : decode cX4_readFrom 167 = .ok (.invokevirtual 93, 3) := by decide +kernel
theorem dX4_readFrom_170 : decode cX4_readFrom 170 = .ok (.iinc 3 1, 3) := by decide +kernel
theorem dX4_readFrom_173 : decode cX4_readFrom 173 = .ok (.goto (-83), 3) := by decide +kernel
theorem dX4_readFrom_176 : decode cX4_readFrom 176 = .ok (.iinc 2 1, 3) := by decide +kernel
theorem dX4_readFrom_179 : decode cX4_readFrom 179 = .ok (.goto (-99), 3) := by decide +kernel
theorem dX4_readFrom_182 : decode cX4_readFrom 182 = .ok (.aload_n 0, 1) := by decide +kernel
theorem dX4_readFrom_183 : decode cX4_readFrom 183 = .ok (.aload_n 1, 1) := by decide +kernel
theorem dX4_readFrom_184 : decode cX4_readFrom 184 = .ok (.invokevirtual 97, 3) := by decide +kernel
theorem dX4_readFrom_187 : decode cX4_readFrom 187 = .ok (.putfield 62, 3) := by decide +kernel
theorem dX4_readFrom_190 : decode cX4_readFrom 190 = .ok (.aload_n 0, 1) := by decide +kernel
theorem dX4_readFrom_191 : decode cX4_readFrom 191 = .ok (.aload_n 0, 1) := by decide +kernel
theorem dX4_readFrom_192 : decode cX4_readFrom 192 = .ok (.getfield 56, 3) := by decide +kernel
theorem dX4_readFrom_195 : decode cX4_readFrom 195 = .ok (.ifCond .le 25, 3) := by decide +kernel
theorem dX4_readFrom_198 : decode cX4_readFrom 198 = .ok (.aload_n 0, 1) := by decide +kernel
theorem dX4_readFrom_199 : decode cX4_readFrom 199 = .ok (.getfield 28, 3) := by decide +kernel
theorem dX4_readFrom_202 : decode cX4_readFrom 202 = .ok (.aload_n 0, 1) := by decide +kernel
theorem dX4_readFrom_203 : decode cX4_readFrom 203 = .ok (.getfield 46, 3) := by decide +kernel
theorem dX4_readFrom_206 : decode cX4_readFrom 206 = .ok (.aload_n 0, 1) := by decide +kernel
theorem dX4_readFrom_207 : decode cX4_readFrom 207 = .ok (.getfield 50, 3) := by decide +kernel
theorem dX4_readFrom_210 : decode cX4_readFrom 210 = .ok (.aload_n 0, 1) := by decide +kernel
theorem dX4_readFrom_211 : decode cX4_readFrom 211 = .ok (.getfield 56, 3) := by decide +kernel
theorem dX4_readFrom_214 : decode cX4_readFrom 214 = .ok (.invokevirtual 100, 3) := by decide +kernel
theorem dX4_readFrom_217 : decode cX4_readFrom 217 = .ok (.goto 4, 3) := by decide +kernel
theorem dX4_readFrom_220 : decode cX4_readFrom 220 = .ok (.iconst 0, 1) := by decide +kernel
theorem dX4_readFrom_221 : decode cX4_readFrom 221 = .ok (.putfield 65, 3) := by decide +kernel
theorem dX4_readFrom_224 : decode cX4_readFrom 224 = .ok (.return_, 1) := by decide +kernel
theorem dX4_readWay_0 : decode cX4_readWay 0 = .ok (.aload_n 0, 1) := by decide +kernel
theorem dX4_readWay_1 : decode cX4_readWay 1 = .ok (.bipush 112, 2) := by decide +kernel
theorem dX4_readWay_3 : decode cX4_readWay 3 = .ok (.invokevirtual 104, 3) := by decide +kernel
theorem dX4_readWay_6 : decode cX4_readWay 6 = .ok (.ifCond .ne 5, 3) := by decide +kernel
theorem dX4_readWay_9 : decode cX4_readWay 9 = .ok (.iconst 0, 1) := by decide +kernel
theorem dX4_readWay_10 : decode cX4_readWay 10 = .ok (.ireturn, 1) := by decide +kernel
theorem dX4_readWay_11 : decode cX4_readWay 11 = .ok (.aload_n 0, 1) := by decide +kernel
theorem dX4_readWay_12 : decode cX4_readWay 12 = .ok (.bipush 86, 2) := by decide +kernel
theorem dX4_readWay_14 : decode cX4_readWay 14 = .ok (.invokevirtual 104, 3) := by decide +kernel
theorem dX4_readWay_17 : decode cX4_readWay 17 = .ok (.ifCond .ne 5, 3) := by decide +kernel
theorem dX4_readWay_20 : decode cX4_readWay 20 = .ok (.iconst 1, 1) := by decide +kernel
theorem dX4_readWay_21 : decode cX4_readWay 21 = .ok (.ireturn, 1) := by decide +kernel
theorem dX4_readWay_22 : decode cX4_readWay 22 = .ok (.aload_n 0, 1) := by decide +kernel
theorem dX4_readWay_23 : decode cX4_readWay 23 = .ok (.sipush 140, 3) := by decide +kernel
theorem dX4_readWay_26 : decode cX4_readWay 26 = .ok (.invokevirtual 104, 3) := by decide +kernel
theorem dX4_readWay_29 : decode cX4_readWay 29 = .ok (.ifCond .ne 7, 3) := by decide +kernel
theorem dX4_readWay_32 : decode cX4_readWay 32 = .ok (.iconst 2, 1) := by decide +kernel
theorem dX4_readWay_33 : decode cX4_readWay 33 = .ok (.goto 4, 3) := by decide +kernel
theorem dX4_readWay_36 : decode cX4_readWay 36 = .ok (.iconst 3, 1) := by decide +kernel
theorem dX4_readWay_37 : decode cX4_readWay 37 = .ok (.ireturn, 1) := by decide +kernel
theorem dX4_contextOf_0 : decode cX4_contextOf 0 = .ok (.iload_n 2, 1) := by decide +kernel
theorem dX4_contextOf_1 : decode cX4_contextOf 1 = .ok (.aload_n 0, 1) := by decide +kernel
theorem dX4_contextOf_2 : decode cX4_contextOf 2 = .ok (.getfield 46, 3) := by decide +kernel
theorem dX4_contextOf_5 : decode cX4_contextOf 5 = .ok (.imul, 1) := by decide +kernel
theorem dX4_contextOf_6 : decode cX4_contextOf 6 = .ok (.iload_n 1, 1) := by decide +kernel
theorem dX4_contextOf_7 : decode cX4_contextOf 7 = .ok (.iadd, 1) := by decide +kernel
theorem dX4_contextOf_8 : decode cX4_contextOf 8 = .ok (.istore_n 3, 1) := by decide +kernel
theorem dX4_contextOf_9 : decode cX4_contextOf 9 = .ok (.iconst 0, 1) := by decide +kernel
theorem dX4_contextOf_10 : decode cX4_contextOf 10 = .ok (.istore 4, 2) := by decide +kernel
theorem dX4_contextOf_12 : decode cX4_contextOf 12 = .ok (.iload_n 1, 1) := by decide +kernel
theorem dX4_contextOf_13 : decode cX4_contextOf 13 = .ok (.ifCond .le 17, 3) := by decide +kernel
theorem dX4_contextOf_16 : decode cX4_contextOf 16 = .ok (.aload_n 0, 1) := by decide +kernel
theorem dX4_contextOf_17 : decode cX4_contextOf 17 = .ok (.getfield 42, 3) := by decide +kernel
theorem dX4_contextOf_20 : decode cX4_contextOf 20 = .ok (.iload_n 3, 1) := by decide +kernel
theorem dX4_contextOf_21 : decode cX4_contextOf 21 = .ok (.iconst 1, 1) := by decide +kernel
theorem dX4_contextOf_22 : decode cX4_contextOf 22 = .ok (.isub, 1) := by decide +kernel
theorem dX4_contextOf_23 : decode cX4_contextOf 23 = .ok (.baload, 1) := by decide +kernel
theorem dX4_contextOf_24 : decode cX4_contextOf 24 = .ok (.ifCond .eq 6, 3) := by decide +kernel
theorem dX4_contextOf_27 : decode cX4_contextOf 27 = .ok (.iinc 4 1, 3) := by decide +kernel
theorem dX4_contextOf_30 : decode cX4_contextOf 30 = .ok (.iload_n 2, 1) := by decide +kernel
theorem dX4_contextOf_31 : decode cX4_contextOf 31 = .ok (.ifCond .le 20, 3) := by decide +kernel
theorem dX4_contextOf_34 : decode cX4_contextOf 34 = .ok (.aload_n 0, 1) := by decide +kernel
theorem dX4_contextOf_35 : decode cX4_contextOf 35 = .ok (.getfield 42, 3) := by decide +kernel
theorem dX4_contextOf_38 : decode cX4_contextOf 38 = .ok (.iload_n 3, 1) := by decide +kernel
theorem dX4_contextOf_39 : decode cX4_contextOf 39 = .ok (.aload_n 0, 1) := by decide +kernel
theorem dX4_contextOf_40 : decode cX4_contextOf 40 = .ok (.getfield 46, 3) := by decide +kernel
theorem dX4_contextOf_43 : decode cX4_contextOf 43 = .ok (.isub, 1) := by decide +kernel
theorem dX4_contextOf_44 : decode cX4_contextOf 44 = .ok (.baload, 1) := by decide +kernel
theorem dX4_contextOf_45 : decode cX4_contextOf 45 = .ok (.ifCond .eq 6, 3) := by decide +kernel
theorem dX4_contextOf_48 : decode cX4_contextOf 48 = .ok (.iinc 4 1, 3) := by decide +kernel
theorem dX4_contextOf_51 : decode cX4_contextOf 51 = .ok (.iload 4, 2) := by decide +kernel
theorem dX4_contextOf_53 : decode cX4_contextOf 53 = .ok (.ireturn, 1) := by decide +kernel
theorem dX4_hasSomeNotZero_0 : decode cX4_hasSomeNotZero 0 = .ok (.iconst 0, 1) := by decide +kernel
theorem dX4_hasSomeNotZero_1 : decode cX4_hasSomeNotZero 1 = .ok (.istore_n 2, 1) := by decide +kernel
theorem dX4_hasSomeNotZero_2 : decode cX4_hasSomeNotZero 2 = .ok (.iload_n 2, 1) := by decide +kernel
theorem dX4_hasSomeNotZero_3 : decode cX4_hasSomeNotZero 3 = .ok (.bipush 16, 2) := by decide +kernel
theorem dX4_hasSomeNotZero_5 : decode cX4_hasSomeNotZero 5 = .ok (.if_icmp .ge 25, 3) := by decide +kernel
theorem dX4_hasSomeNotZero_8 : decode cX4_hasSomeNotZero 8 = .ok (.aload_n 0, 1) := by decide +kernel
theorem dX4_hasSomeNotZero_9 : decode cX4_hasSomeNotZero 9 = .ok (.getfield 39, 3) := by decide +kernel
theorem dX4_hasSomeNotZero_12 : decode cX4_hasSomeNotZero 12 = .ok (.iload_n 1, 1) := by decide +kernel
theorem dX4_hasSomeNotZero_13 : decode cX4_hasSomeNotZero 13 = .ok (.bipush 16, 2) := by decide +kernel
theorem dX4_hasSomeNotZero_15 : decode cX4_hasSomeNotZero 15 = .ok (.imul, 1) := by decide +kernel
theorem dX4_hasSomeNotZero_16 : decode cX4_hasSomeNotZero 16 = .ok (.iload_n 2, 1) := by decide +kernel
theorem dX4_hasSomeNotZero_17 : decode cX4_hasSomeNotZero 17 = .ok (.iadd, 1) := by decide +kernel
theorem dX4_hasSomeNotZero_18 : decode cX4_hasSomeNotZero 18 = .ok (.iaload, 1) := by decide +kernel
theorem dX4_hasSomeNotZero_19 : decode cX4_hasSomeNotZero 19 = .ok (.ifCond .eq 5, 3) := by decide +kernel
theorem dX4_hasSomeNotZero_22 : decode cX4_hasSomeNotZero 22 = .ok (.iconst 1, 1) := by decide +kernel
theorem dX4_hasSomeNotZero_23 : decode cX4_hasSomeNotZero 23 = .ok (.ireturn, 1) := by decide +kernel
theorem dX4_hasSomeNotZero_24 : decode cX4_hasSomeNotZero 24 = .ok (.iinc 2 1, 3) := by decide +kernel
theorem dX4_hasSomeNotZero_27 : decode cX4_hasSomeNotZero 27 = .ok (.goto (-25), 3) := by decide +kernel
theorem dX4_hasSomeNotZero_30 : decode cX4_hasSomeNotZero 30 = .ok (.iconst 0, 1) := by decide +kernel
theorem dX4_hasSomeNotZero_31 : decode cX4_hasSomeNotZero 31 = .ok (.ireturn, 1) := by decide +kernel
theorem dX4_rebuild_0 : decode cX4_rebuild 0 = .ok (.aload_n 0, 1) := by decide +kernel
theorem dX4_rebuild_1 : decode cX4_rebuild 1 = .ok (.getfield 21, 3) := by decide +kernel
theorem dX4_rebuild_4 : decode cX4_rebuild 4 = .ok (.aload_n 0, 1) := by decide +kernel
theorem dX4_rebuild_5 : decode cX4_rebuild 5 = .ok (.getfield 39, 3) := by decide +kernel
theorem dX4_rebuild_8 : decode cX4_rebuild 8 = .ok (.iload_n 1, 1) := by decide +kernel
theorem dX4_rebuild_9 : decode cX4_rebuild 9 = .ok (.bipush 16, 2) := by decide +kernel
theorem dX4_rebuild_11 : decode cX4_rebuild 11 = .ok (.imul, 1) := by decide +kernel
theorem dX4_rebuild_12 : decode cX4_rebuild 12 = .ok (.aload_n 0, 1) := by decide +kernel
theorem dX4_rebuild_13 : decode cX4_rebuild 13 = .ok (.getfield 53, 3) := by decide +kernel
theorem dX4_rebuild_16 : decode cX4_rebuild 16 = .ok (.invokevirtual 107, 3) := by decide +kernel
theorem dX4_rebuild_19 : decode cX4_rebuild 19 = .ok (.aload_n 0, 1) := by decide +kernel
theorem dX4_rebuild_20 : decode cX4_rebuild 20 = .ok (.getfield 21, 3) := by decide +kernel
theorem dX4_rebuild_23 : decode cX4_rebuild 23 = .ok (.invokevirtual 111, 3) := by decide +kernel
end
section
theorem dX4_rebuild_26 : decode cX4_rebuild 26 = .ok (.aload_n 0, 1) := by decide +kernel
theorem dX4_rebuild_27 : decode cX4_rebuild 27 = .ok (.getfield 28, 3) := by decide +kernel
theorem dX4_rebuild_30 : decode cX4_rebuild 30 = .ok (.iconst 4, 1) := by decide +kernel
theorem dX4_rebuild_31 : decode cX4_rebuild 31 = .ok (.iload_n 2, 1) := by decide +kernel
theorem dX4_rebuild_32 : decode cX4_rebuild 32 = .ok (.imul, 1) := by decide +kernel
theorem dX4_rebuild_33 : decode cX4_rebuild 33 = .ok (.iconst 4, 1) := by decide +kernel
theorem dX4_rebuild_34 : decode cX4_rebuild 34 = .ok (.iload_n 3, 1) := by decide +kernel
theorem dX4_rebuild_35 : decode cX4_rebuild 35 = .ok (.imul, 1) := by decide +kernel
theorem dX4_rebuild_36 : decode cX4_rebuild 36 = .ok (.aload_n 0, 1) := by decide +kernel
theorem dX4_rebuild_37 : decode cX4_rebuild 37 = .ok (.getfield 32, 3) := by decide +kernel
theorem dX4_rebuild_40 : decode cX4_rebuild 40 = .ok (.iload_n 1, 1) := by decide +kernel
theorem dX4_rebuild_41 : decode cX4_rebuild 41 = .ok (.iaload, 1) := by decide +kernel
theorem dX4_rebuild_42 : decode cX4_rebuild 42 = .ok (.aload_n 0, 1) := by decide +kernel
theorem dX4_rebuild_43 : decode cX4_rebuild 43 = .ok (.getfield 21, 3) := by decide +kernel
theorem dX4_rebuild_46 : decode cX4_rebuild 46 = .ok (.getfield 114, 3) := by decide +kernel
theorem dX4_rebuild_49 : decode cX4_rebuild 49 = .ok (.invokevirtual 118, 3) := by decide +kernel
theorem dX4_rebuild_52 : decode cX4_rebuild 52 = .ok (.return_, 1) := by decide +kernel
theorem dX4_blocks_0 : decode cX4_blocks 0 = .ok (.aload_n 0, 1) := by decide +kernel
theorem dX4_blocks_1 : decode cX4_blocks 1 = .ok (.getfield 46, 3) := by decide +kernel
theorem dX4_blocks_4 : decode cX4_blocks 4 = .ok (.aload_n 0, 1) := by decide +kernel
theorem dX4_blocks_5 : decode cX4_blocks 5 = .ok (.getfield 50, 3) := by decide +kernel
theorem dX4_blocks_8 : decode cX4_blocks 8 = .ok (.imul, 1) := by decide +kernel
theorem dX4_blocks_9 : decode cX4_blocks 9 = .ok (.ireturn, 1) := by decide +kernel
theorem dX4_hasBlock_0 : decode cX4_hasBlock 0 = .ok (.iload_n 1, 1) := by decide +kernel
theorem dX4_hasBlock_1 : decode cX4_hasBlock 1 = .ok (.ifCond .lt 15, 3) := by decide +kernel
theorem dX4_hasBlock_4 : decode cX4_hasBlock 4 = .ok (.iload_n 1, 1) := by decide +kernel
theorem dX4_hasBlock_5 : decode cX4_hasBlock 5 = .ok (.aload_n 0, 1) := by decide +kernel
theorem dX4_hasBlock_6 : decode cX4_hasBlock 6 = .ok (.invokevirtual 121, 3) := by decide +kernel
theorem dX4_hasBlock_9 : decode cX4_hasBlock 9 = .ok (.if_icmp .ge 7, 3) := by decide +kernel
theorem dX4_hasBlock_12 : decode cX4_hasBlock 12 = .ok (.iconst 1, 1) := by decide +kernel
theorem dX4_hasBlock_13 : decode cX4_hasBlock 13 = .ok (.goto 4, 3) := by decide +kernel
theorem dX4_hasBlock_16 : decode cX4_hasBlock 16 = .ok (.iconst 0, 1) := by decide +kernel
theorem dX4_hasBlock_17 : decode cX4_hasBlock 17 = .ok (.ireturn, 1) := by decide +kernel
theorem dX4_sampleAt_0 : decode cX4_sampleAt 0 = .ok (.iload_n 1, 1) := by decide +kernel
theorem dX4_sampleAt_1 : decode cX4_sampleAt 1 = .ok (.ifCond .lt 31, 3) := by decide +kernel
theorem dX4_sampleAt_4 : decode cX4_sampleAt 4 = .ok (.iload_n 1, 1) := by decide +kernel
theorem dX4_sampleAt_5 : decode cX4_sampleAt 5 = .ok (.iconst 4, 1) := by decide +kernel
theorem dX4_sampleAt_6 : decode cX4_sampleAt 6 = .ok (.aload_n 0, 1) := by decide +kernel
theorem dX4_sampleAt_7 : decode cX4_sampleAt 7 = .ok (.getfield 46, 3) := by decide +kernel
theorem dX4_sampleAt_10 : decode cX4_sampleAt 10 = .ok (.imul, 1) := by decide +kernel
theorem dX4_sampleAt_11 : decode cX4_sampleAt 11 = .ok (.if_icmp .ge 21, 3) := by decide +kernel
theorem dX4_sampleAt_14 : decode cX4_sampleAt 14 = .ok (.iload_n 2, 1) := by decide +kernel
theorem dX4_sampleAt_15 : decode cX4_sampleAt 15 = .ok (.ifCond .lt 17, 3) := by decide +kernel
theorem dX4_sampleAt_18 : decode cX4_sampleAt 18 = .ok (.iload_n 2, 1) := by decide +kernel
theorem dX4_sampleAt_19 : decode cX4_sampleAt 19 = .ok (.iconst 4, 1) := by decide +kernel
theorem dX4_sampleAt_20 : decode cX4_sampleAt 20 = .ok (.aload_n 0, 1) := by decide +kernel
theorem dX4_sampleAt_21 : decode cX4_sampleAt 21 = .ok (.getfield 50, 3) := by decide +kernel
theorem dX4_sampleAt_24 : decode cX4_sampleAt 24 = .ok (.imul, 1) := by decide +kernel
theorem dX4_sampleAt_25 : decode cX4_sampleAt 25 = .ok (.if_icmp .ge 7, 3) := by decide +kernel
theorem dX4_sampleAt_28 : decode cX4_sampleAt 28 = .ok (.iconst 1, 1) := by decide +kernel
theorem dX4_sampleAt_29 : decode cX4_sampleAt 29 = .ok (.goto 4, 3) := by decide +kernel
theorem dX4_sampleAt_32 : decode cX4_sampleAt 32 = .ok (.iconst 0, 1) := by decide +kernel
theorem dX4_sampleAt_33 : decode cX4_sampleAt 33 = .ok (.istore_n 3, 1) := by decide +kernel
theorem dX4_sampleAt_34 : decode cX4_sampleAt 34 = .ok (.iload_n 3, 1) := by decide +kernel
theorem dX4_sampleAt_35 : decode cX4_sampleAt 35 = .ok (.ifCond .eq 15, 3) := by decide +kernel
theorem dX4_sampleAt_38 : decode cX4_sampleAt 38 = .ok (.aload_n 0, 1) := by decide +kernel
theorem dX4_sampleAt_39 : decode cX4_sampleAt 39 = .ok (.getfield 28, 3) := by decide +kernel
theorem dX4_sampleAt_42 : decode cX4_sampleAt 42 = .ok (.iload_n 1, 1) := by decide +kernel
theorem dX4_sampleAt_43 : decode cX4_sampleAt 43 = .ok (.iload_n 2, 1) := by decide +kernel
theorem dX4_sampleAt_44 : decode cX4_sampleAt 44 = .ok (.invokevirtual 124, 3) := by decide +kernel
theorem dX4_sampleAt_47 : decode cX4_sampleAt 47 = .ok (.goto 4, 3) := by decide +kernel
theorem dX4_sampleAt_50 : decode cX4_sampleAt 50 = .ok (.iconst (-1), 1) := by decide +kernel
theorem dX4_sampleAt_51 : decode cX4_sampleAt 51 = .ok (.ireturn, 1) := by decide +kernel
theorem dX4_wayOf_0 : decode cX4_wayOf 0 = .ok (.aload_n 0, 1) := by decide +kernel
theorem dX4_wayOf_1 : decode cX4_wayOf 1 = .ok (.iload_n 1, 1) := by decide +kernel
theorem dX4_wayOf_2 : decode cX4_wayOf 2 = .ok (.invokevirtual 127, 3) := by decide +kernel
theorem dX4_wayOf_5 : decode cX4_wayOf 5 = .ok (.ifCond .eq 12, 3) := by decide +kernel
theorem dX4_wayOf_8 : decode cX4_wayOf 8 = .ok (.aload_n 0, 1) := by decide +kernel
theorem dX4_wayOf_9 : decode cX4_wayOf 9 = .ok (.getfield 32, 3) := by decide +kernel
theorem dX4_wayOf_12 : decode cX4_wayOf 12 = .ok (.iload_n 1, 1) := by decide +kernel
theorem dX4_wayOf_13 : decode cX4_wayOf 13 = .ok (.iaload, 1) := by decide +kernel
theorem dX4_wayOf_14 : decode cX4_wayOf 14 = .ok (.goto 4, 3) := by decide +kernel
theorem dX4_wayOf_17 : decode cX4_wayOf 17 = .ok (.iconst (-1), 1) := by decide +kernel
theorem dX4_wayOf_18 : decode cX4_wayOf 18 = .ok (.ireturn, 1) := by decide +kernel
theorem dX4_coefficientsReadOf_0 : decode cX4_coefficientsReadOf 0 = .ok (.aload_n 0, 1) := by decide +kernel
theorem dX4_coefficientsReadOf_1 : decode cX4_coefficientsReadOf 1 = .ok (.iload_n 1, 1) := by decide +kernel
theorem dX4_coefficientsReadOf_2 : decode cX4_coefficientsReadOf 2 = .ok (.invokevirtual 127, 3) := by decide +kernel
theorem dX4_coefficientsReadOf_5 : decode cX4_coefficientsReadOf 5 = .ok (.ifCond .eq 12, 3) := by decide +kernel
theorem dX4_coefficientsReadOf_8 : decode cX4_coefficientsReadOf 8 = .ok (.aload_n 0, 1) := by decide +kernel
theorem dX4_coefficientsReadOf_9 : decode cX4_coefficientsReadOf 9 = .ok (.getfield 36, 3) := by decide +kernel
theorem dX4_coefficientsReadOf_12 : decode cX4_coefficientsReadOf 12 = .ok (.iload_n 1, 1) := by decide +kernel
theorem dX4_coefficientsReadOf_13 : decode cX4_coefficientsReadOf 13 = .ok (.iaload, 1) := by decide +kernel
theorem dX4_coefficientsReadOf_14 : decode cX4_coefficientsReadOf 14 = .ok (.goto 4, 3) := by decide +kernel
theorem dX4_coefficientsReadOf_17 : decode cX4_coefficientsReadOf 17 = .ok (.iconst (-1), 1) := by decide +kernel
theorem dX4_coefficientsReadOf_18 : decode cX4_coefficientsReadOf 18 = .ok (.ireturn, 1) := by decide +kernel
theorem dX4_coefficientOf_0 : decode cX4_coefficientOf 0 = .ok (.aload_n 0, 1) := by decide +kernel
theorem dX4_coefficientOf_1 : decode cX4_coefficientOf 1 = .ok (.iload_n 1, 1) := by decide +kernel
theorem dX4_coefficientOf_2 : decode cX4_coefficientOf 2 = .ok (.invokevirtual 127, 3) := by decide +kernel
theorem dX4_coefficientOf_5 : decode cX4_coefficientOf 5 = .ok (.ifCond .eq 17, 3) := by decide +kernel
theorem dX4_coefficientOf_8 : decode cX4_coefficientOf 8 = .ok (.aload_n 0, 1) := by decide +kernel
theorem dX4_coefficientOf_9 : decode cX4_coefficientOf 9 = .ok (.getfield 39, 3) := by decide +kernel
theorem dX4_coefficientOf_12 : decode cX4_coefficientOf 12 = .ok (.iload_n 1, 1) := by decide +kernel
theorem dX4_coefficientOf_13 : decode cX4_coefficientOf 13 = .ok (.bipush 16, 2) := by decide +kernel
theorem dX4_coefficientOf_15 : decode cX4_coefficientOf 15 = .ok (.imul, 1) := by decide +kernel
theorem dX4_coefficientOf_16 : decode cX4_coefficientOf 16 = .ok (.iload_n 2, 1) := by decide +kernel
theorem dX4_coefficientOf_17 : decode cX4_coefficientOf 17 = .ok (.iadd, 1) := by decide +kernel
theorem dX4_coefficientOf_18 : decode cX4_coefficientOf 18 = .ok (.iaload, 1) := by decide +kernel
theorem dX4_coefficientOf_19 : decode cX4_coefficientOf 19 = .ok (.goto 4, 3) := by decide +kernel
theorem dX4_coefficientOf_22 : decode cX4_coefficientOf 22 = .ok (.iconst 0, 1) := by decide +kernel
theorem dX4_coefficientOf_23 : decode cX4_coefficientOf 23 = .ok (.ireturn, 1) := by decide +kernel
theorem dX5_init_0 : decode cX5_init 0 = .ok (.aload_n 0, 1) := by decide +kernel
theorem dX5_init_1 : decode cX5_init 1 = .ok (.invokespecial 1, 3) := by decide +kernel
theorem dX5_init_4 : decode cX5_init 4 = .ok (.aload_n 0, 1) := by decide +kernel
theorem dX5_init_5 : decode cX5_init 5 = .ok (.sipush 256, 3) := by decide +kernel
theorem dX5_init_8 : decode cX5_init 8 = .ok (.newarray .int, 2) := by decide +kernel
theorem dX5_init_10 : decode cX5_init 10 = .ok (.putfield 9, 3) := by decide +kernel
theorem dX5_init_13 : decode cX5_init 13 = .ok (.return_, 1) := by decide +kernel
theorem dX5_at_0 : decode cX5_at 0 = .ok (.aload_n 0, 1) := by decide +kernel
theorem dX5_at_1 : decode cX5_at 1 = .ok (.getfield 9, 3) := by decide +kernel
theorem dX5_at_4 : decode cX5_at 4 = .ok (.iload_n 2, 1) := by decide +kernel
theorem dX5_at_5 : decode cX5_at 5 = .ok (.bipush 16, 2) := by decide +kernel
theorem dX5_at_7 : decode cX5_at 7 = .ok (.imul, 1) := by decide +kernel
theorem dX5_at_8 : decode cX5_at 8 = .ok (.iload_n 1, 1) := by decide +kernel
theorem dX5_at_9 : decode cX5_at 9 = .ok (.iadd, 1) := by decide +kernel
theorem dX5_at_10 : decode cX5_at 10 = .ok (.iaload, 1) := by decide +kernel
theorem dX5_at_11 : decode cX5_at 11 = .ok (.ireturn, 1) := by decide +kernel
theorem dX5_above_0 : decode cX5_above 0 = .ok (.iload_n 2, 1) := by decide +kernel
theorem dX5_above_1 : decode cX5_above 1 = .ok (.ifCond .ne 8, 3) := by decide +kernel
theorem dX5_above_4 : decode cX5_above 4 = .ok (.bipush 127, 2) := by decide +kernel
theorem dX5_above_6 : decode cX5_above 6 = .ok (.goto 11, 3) := by decide +kernel
theorem dX5_above_9 : decode cX5_above 9 = .ok (.aload_n 0, 1) := by decide +kernel
theorem dX5_above_10 : decode cX5_above 10 = .ok (.iload_n 1, 1) := by decide +kernel
theorem dX5_above_11 : decode cX5_above 11 = .ok (.iload_n 2, 1) := by decide +kernel
theorem dX5_above_12 : decode cX5_above 12 = .ok (.iconst 1, 1) := by decide +kernel
theorem dX5_above_13 : decode cX5_above 13 = .ok (.isub, 1) := by decide +kernel
theorem dX5_above_14 : decode cX5_above 14 = .ok (.invokevirtual 13, 3) := by decide +kernel
theorem dX5_above_17 : decode cX5_above 17 = .ok (.ireturn, 1) := by decide +kernel
theorem dX5_leftOf_0 : decode cX5_leftOf 0 = .ok (.iload_n 1, 1) := by decide +kernel
theorem dX5_leftOf_1 : decode cX5_leftOf 1 = .ok (.ifCond .ne 9, 3) := by decide +kernel
theorem dX5_leftOf_4 : decode cX5_leftOf 4 = .ok (.sipush 129, 3) := by decide +kernel
theorem dX5_leftOf_7 : decode cX5_leftOf 7 = .ok (.goto 11, 3) := by decide +kernel
theorem dX5_leftOf_10 : decode cX5_leftOf 10 = .ok (.aload_n 0, 1) := by decide +kernel
theorem dX5_leftOf_11 : decode cX5_leftOf 11 = .ok (.iload_n 1, 1) := by decide +kernel
theorem dX5_leftOf_12 : decode cX5_leftOf 12 = .ok (.iconst 1, 1) := by decide +kernel
theorem dX5_leftOf_13 : decode cX5_leftOf 13 = .ok (.isub, 1) := by decide +kernel
theorem dX5_leftOf_14 : decode cX5_leftOf 14 = .ok (.iload_n 2, 1) := by decide +kernel
theorem dX5_leftOf_15 : decode cX5_leftOf 15 = .ok (.invokevirtual 13, 3) := by decide +kernel
theorem dX5_leftOf_18 : decode cX5_leftOf 18 = .ok (.ireturn, 1) := by decide +kernel
theorem dX5_corner_0 : decode cX5_corner 0 = .ok (.iload_n 2, 1) := by decide +kernel
theorem dX5_corner_1 : decode cX5_corner 1 = .ok (.ifCond .ne 8, 3) := by decide +kernel
theorem dX5_corner_4 : decode cX5_corner 4 = .ok (.bipush 127, 2) := by decide +kernel
theorem dX5_corner_6 : decode cX5_corner 6 = .ok (.goto 11, 3) := by decide +kernel
theorem dX5_corner_9 : decode cX5_corner 9 = .ok (.aload_n 0, 1) := by decide +kernel
theorem dX5_corner_10 : decode cX5_corner 10 = .ok (.iload_n 1, 1) := by decide +kernel
theorem dX5_corner_11 : decode cX5_corner 11 = .ok (.iload_n 2, 1) := by decide +kernel
theorem dX5_corner_12 : decode cX5_corner 12 = .ok (.iconst 1, 1) := by decide +kernel
theorem dX5_corner_13 : decode cX5_corner 13 = .ok (.isub, 1) := by decide +kernel
theorem dX5_corner_14 : decode cX5_corner 14 = .ok (.invokevirtual 17, 3) := by decide +kernel
theorem dX5_corner_17 : decode cX5_corner 17 = .ok (.ireturn, 1) := by decide +kernel
theorem dX5_rebuild_0 : decode cX5_rebuild 0 = .ok (.aload_n 0, 1) := by decide +kernel
theorem dX5_rebuild_1 : decode cX5_rebuild 1 = .ok (.iload_n 1, 1) := by decide +kernel
theorem dX5_rebuild_2 : decode cX5_rebuild 2 = .ok (.iload_n 2, 1) := by decide +kernel
theorem dX5_rebuild_3 : decode cX5_rebuild 3 = .ok (.invokevirtual 20, 3) := by decide +kernel
theorem dX5_rebuild_6 : decode cX5_rebuild 6 = .ok (.istore 5, 2) := by decide +kernel
theorem dX5_rebuild_8 : decode cX5_rebuild 8 = .ok (.aload_n 0, 1) := by decide +kernel
theorem dX5_rebuild_9 : decode cX5_rebuild 9 = .ok (.iload_n 1, 1) := by decide +kernel
theorem dX5_rebuild_10 : decode cX5_rebuild 10 = .ok (.iload_n 2, 1) := by decide +kernel
theorem dX5_rebuild_11 : decode cX5_rebuild 11 = .ok (.invokevirtual 23, 3) := by decide +kernel
theorem dX5_rebuild_14 : decode cX5_rebuild 14 = .ok (.istore 6, 2) := by decide +kernel
theorem dX5_rebuild_16 : decode cX5_rebuild 16 = .ok (.iconst 0, 1) := by decide +kernel
theorem dX5_rebuild_17 : decode cX5_rebuild 17 = .ok (.istore 7, 2) := by decide +kernel
theorem dX5_rebuild_19 : decode cX5_rebuild 19 = .ok (.iload 7, 2) := by decide +kernel
theorem dX5_rebuild_21 : decode cX5_rebuild 21 = .ok (.bipush 16, 2) := by decide +kernel
theorem dX5_rebuild_23 : decode cX5_rebuild 23 = .ok (.if_icmp .ge 125, 3) := by decide +kernel
theorem dX5_rebuild_26 : decode cX5_rebuild 26 = .ok (.iload_n 1, 1) := by decide +kernel
theorem dX5_rebuild_27 : decode cX5_rebuild 27 = .ok (.iload 7, 2) := by decide +kernel
theorem dX5_rebuild_29 : decode cX5_rebuild 29 = .ok (.iconst 4, 1) := by decide +kernel
theorem dX5_rebuild_30 : decode cX5_rebuild 30 = .ok (.irem, 1) := by decide +kernel
theorem dX5_rebuild_31 : decode cX5_rebuild 31 = .ok (.iadd, 1) := by decide +kernel
theorem dX5_rebuild_32 : decode cX5_rebuild 32 = .ok (.istore 8, 2) := by decide +kernel
theorem dX5_rebuild_34 : decode cX5_rebuild 34 = .ok (.iload_n 2, 1) := by decide +kernel
theorem dX5_rebuild_35 : decode cX5_rebuild 35 = .ok (.iload 7, 2) := by decide +kernel
theorem dX5_rebuild_37 : decode cX5_rebuild 37 = .ok (.iconst 4, 1) := by decide +kernel
theorem dX5_rebuild_38 : decode cX5_rebuild 38 = .ok (.idiv, 1) := by decide +kernel
theorem dX5_rebuild_39 : decode cX5_rebuild 39 = .ok (.iadd, 1) := by decide +kernel
theorem dX5_rebuild_40 : decode cX5_rebuild 40 = .ok (.istore 9, 2) := by decide +kernel
theorem dX5_rebuild_42 : decode cX5_rebuild 42 = .ok (.iload 5, 2) := by decide +kernel
theorem dX5_rebuild_44 : decode cX5_rebuild 44 = .ok (.istore 10, 2) := by decide +kernel
theorem dX5_rebuild_46 : decode cX5_rebuild 46 = .ok (.iload_n 3, 1) := by decide +kernel
theorem dX5_rebuild_47 : decode cX5_rebuild 47 = .ok (.iconst 1, 1) := by decide +kernel
theorem dX5_rebuild_48 : decode cX5_rebuild 48 = .ok (.if_icmp .ne 15, 3) := by decide +kernel
theorem dX5_rebuild_51 : decode cX5_rebuild 51 = .ok (.aload_n 0, 1) := by decide +kernel
theorem dX5_rebuild_52 : decode cX5_rebuild 52 = .ok (.iload 8, 2) := by decide +kernel
theorem dX5_rebuild_54 : decode cX5_rebuild 54 = .ok (.iload_n 2, 1) := by decide +kernel
theorem dX5_rebuild_55 : decode cX5_rebuild 55 = .ok (.invokevirtual 28, 3) := by decide +kernel
theorem dX5_rebuild_58 : decode cX5_rebuild 58 = .ok (.istore 10, 2) := by decide +kernel
theorem dX5_rebuild_60 : decode cX5_rebuild 60 = .ok (.goto 53, 3) := by decide +kernel
theorem dX5_rebuild_63 : decode cX5_rebuild 63 = .ok (.iload_n 3, 1) := by decide +kernel
theorem dX5_rebuild_64 : decode cX5_rebuild 64 = .ok (.iconst 2, 1) := by decide +kernel
theorem dX5_rebuild_65 : decode cX5_rebuild 65 = .ok (.if_icmp .ne 15, 3) := by decide +kernel
theorem dX5_rebuild_68 : decode cX5_rebuild 68 = .ok (.aload_n 0, 1) := by decide +kernel
theorem dX5_rebuild_69 : decode cX5_rebuild 69 = .ok (.iload_n 1, 1) := by decide +kernel
theorem dX5_rebuild_70 : decode cX5_rebuild 70 = .ok (.iload 9, 2) := by decide +kernel
theorem dX5_rebuild_72 : decode cX5_rebuild 72 = .ok (.invokevirtual 17, 3) := by decide +kernel
theorem dX5_rebuild_75 : decode cX5_rebuild 75 = .ok (.istore 10, 2) := by decide +kernel
theorem dX5_rebuild_77 : decode cX5_rebuild 77 = .ok (.goto 36, 3) := by decide +kernel
theorem dX5_rebuild_80 : decode cX5_rebuild 80 = .ok (.iload_n 3, 1) := by decide +kernel
theorem dX5_rebuild_81 : decode cX5_rebuild 81 = .ok (.iconst 3, 1) := by decide +kernel
theorem dX5_rebuild_82 : decode cX5_rebuild 82 = .ok (.if_icmp .ne 31, 3) := by decide +kernel
theorem dX5_rebuild_85 : decode cX5_rebuild 85 = .ok (.aload_n 0, 1) := by decide +kernel
theorem dX5_rebuild_86 : decode cX5_rebuild 86 = .ok (.iload_n 1, 1) := by decide +kernel
theorem dX5_rebuild_87 : decode cX5_rebuild 87 = .ok (.iload 9, 2) := by decide +kernel
theorem dX5_rebuild_89 : decode cX5_rebuild 89 = .ok (.invokevirtual 17, 3) := by decide +kernel
theorem dX5_rebuild_92 : decode cX5_rebuild 92 = .ok (.aload_n 0, 1) := by decide +kernel
theorem dX5_rebuild_93 : decode cX5_rebuild 93 = .ok (.iload 8, 2) := by decide +kernel
theorem dX5_rebuild_95 : decode cX5_rebuild 95 = .ok (.iload_n 2, 1) := by decide +kernel
theorem dX5_rebuild_96 : decode cX5_rebuild 96 = .ok (.invokevirtual 28, 3) := by decide +kernel
theorem dX5_rebuild_99 : decode cX5_rebuild 99 = .ok (.iadd, 1) := by decide +kernel
theorem dX5_rebuild_100 : decode cX5_rebuild 100 = .ok (.iload 6, 2) := by decide +kernel
theorem dX5_rebuild_102 : decode cX5_rebuild 102 = .ok (.isub, 1) := by decide +kernel
theorem dX5_rebuild_103 : decode cX5_rebuild 103 = .ok (.i2l, 1) := by decide +kernel
theorem dX5_rebuild_104 : decode cX5_rebuild 104 = .ok (.iconst 0, 1) := by decide +kernel
theorem dX5_rebuild_105 : decode cX5_rebuild 105 = .ok (.sipush 255, 3) := by decide +kernel
theorem dX5_rebuild_108 : decode cX5_rebuild 108 = .ok (.invokestatic 31, 3) := by decide +kernel
theorem dX5_rebuild_111 : decode cX5_rebuild 111 = .ok (.istore 10, 2) := by decide +kernel
theorem dX5_rebuild_113 : decode cX5_rebuild 113 = .ok (.aload_n 0, 1) := by decide +kernel
theorem dX5_rebuild_114 : decode cX5_rebuild 114 = .ok (.getfield 9, 3) := by decide +kernel
theorem dX5_rebuild_117 : decode cX5_rebuild 117 = .ok (.iload 9, 2) := by decide +kernel
theorem dX5_rebuild_119 : decode cX5_rebuild 119 = .ok (.bipush 16, 2) := by decide +kernel
theorem dX5_rebuild_121 : decode cX5_rebuild 121 = .ok (.imul, 1) := by decide +kernel
theorem dX5_rebuild_122 : decode cX5_rebuild 122 = .ok (.iload 8, 2) := by decide +kernel
theorem dX5_rebuild_124 : decode cX5_rebuild 124 = .ok (.iadd, 1) := by decide +kernel
theorem dX5_rebuild_125 : decode cX5_rebuild 125 = .ok (.iload 10, 2) := by decide +kernel
theorem dX5_rebuild_127 : decode cX5_rebuild 127 = .ok (.i2l, 1) := by decide +kernel
theorem dX5_rebuild_128 : decode cX5_rebuild 128 = .ok (.aload 4, 2) := by decide +kernel
theorem dX5_rebuild_130 : decode cX5_rebuild 130 = .ok (.iload 7, 2) := by decide +kernel
theorem dX5_rebuild_132 : decode cX5_rebuild 132 = .ok (.laload, 1) := by decide +kernel
theorem dX5_rebuild_133 : decode cX5_rebuild 133 = .ok (.ladd, 1) := by decide +kernel
theorem dX5_rebuild_134 : decode cX5_rebuild 134 = .ok (.iconst 0, 1) := by decide +kernel
theorem dX5_rebuild_135 : decode cX5_rebuild 135 = .ok (.sipush 255, 3) := by decide +kernel
theorem dX5_rebuild_138 : decode cX5_rebuild 138 = .ok (.invokestatic 31, 3) := by decide +kernel
theorem dX5_rebuild_141 : decode cX5_rebuild 141 = .ok (.iastore, 1) := by decide +kernel
theorem dX5_rebuild_142 : decode cX5_rebuild 142 = .ok (.iinc 7 1, 3) := by decide +kernel
theorem dX5_rebuild_145 : decode cX5_rebuild 145 = .ok (.goto (-126), 3) := by decide +kernel
theorem dX5_rebuild_148 : decode cX5_rebuild 148 = .ok (.return_, 1) := by decide +kernel
theorem dX5_evenOf_0 : decode cX5_evenOf 0 = .ok (.iconst 4, 1) := by decide +kernel
theorem dX5_evenOf_1 : decode cX5_evenOf 1 = .ok (.istore_n 3, 1) := by decide +kernel
theorem dX5_evenOf_2 : decode cX5_evenOf 2 = .ok (.iconst 0, 1) := by decide +kernel
theorem dX5_evenOf_3 : decode cX5_evenOf 3 = .ok (.istore 4, 2) := by decide +kernel
theorem dX5_evenOf_5 : decode cX5_evenOf 5 = .ok (.iload 4, 2) := by decide +kernel
theorem dX5_evenOf_7 : decode cX5_evenOf 7 = .ok (.iconst 4, 1) := by decide +kernel
theorem dX5_evenOf_8 : decode cX5_evenOf 8 = .ok (.if_icmp .ge 31, 3) := by decide +kernel
theorem dX5_evenOf_11 : decode cX5_evenOf 11 = .ok (.iload_n 3, 1) := by decide +kernel
theorem dX5_evenOf_12 : decode cX5_evenOf 12 = .ok (.aload_n 0, 1) := by decide +kernel
theorem dX5_evenOf_13 : decode cX5_evenOf 13 = .ok (.iload_n 1, 1) := by decide +kernel
theorem dX5_evenOf_14 : decode cX5_evenOf 14 = .ok (.iload 4, 2) := by decide +kernel
theorem dX5_evenOf_16 : decode cX5_evenOf 16 = .ok (.iadd, 1) := by decide +kernel
theorem dX5_evenOf_17 : decode cX5_evenOf 17 = .ok (.iload_n 2, 1) := by decide +kernel
theorem dX5_evenOf_18 : decode cX5_evenOf 18 = .ok (.invokevirtual 28, 3) := by decide +kernel
theorem dX5_evenOf_21 : decode cX5_evenOf 21 = .ok (.aload_n 0, 1) := by decide +kernel
theorem dX5_evenOf_22 : decode cX5_evenOf 22 = .ok (.iload_n 1, 1) := by decide +kernel
theorem dX5_evenOf_23 : decode cX5_evenOf 23 = .ok (.iload_n 2, 1) := by decide +kernel
theorem dX5_evenOf_24 : decode cX5_evenOf 24 = .ok (.iload 4, 2) := by decide +kernel
theorem dX5_evenOf_26 : decode cX5_evenOf 26 = .ok (.iadd, 1) := by decide +kernel
theorem dX5_evenOf_27 : decode cX5_evenOf 27 = .ok (.invokevirtual 17, 3) := by decide +kernel
theorem dX5_evenOf_30 : decode cX5_evenOf 30 = .ok (.iadd, 1) := by decide +kernel
theorem dX5_evenOf_31 : decode cX5_evenOf 31 = .ok (.iadd, 1) := by decide +kernel
theorem dX5_evenOf_32 : decode cX5_evenOf 32 = .ok (.istore_n 3, 1) := by decide +kernel
theorem dX5_evenOf_33 : decode cX5_evenOf 33 = .ok (.iinc 4 1, 3) := by decide +kernel
theorem dX5_evenOf_36 : decode cX5_evenOf 36 = .ok (.goto (-31), 3) := by decide +kernel
theorem dX5_evenOf_39 : decode cX5_evenOf 39 = .ok (.iload_n 3, 1) := by decide +kernel
theorem dX5_evenOf_40 : decode cX5_evenOf 40 = .ok (.bipush 8, 2) := by decide +kernel
theorem dX5_evenOf_42 : decode cX5_evenOf 42 = .ok (.idiv, 1) := by decide +kernel
theorem dX5_evenOf_43 : decode cX5_evenOf 43 = .ok (.ireturn, 1) := by decide +kernel
theorem dX5_filterAll_0 : decode cX5_filterAll 0 = .ok (.iconst 2, 1) := by decide +kernel
theorem dX5_filterAll_1 : decode cX5_filterAll 1 = .ok (.iload_n 3, 1) := by decide +kernel
theorem dX5_filterAll_2 : decode cX5_filterAll 2 = .ok (.imul, 1) := by decide +kernel
theorem dX5_filterAll_3 : decode cX5_filterAll 3 = .ok (.iconst 4, 1) := by decide +kernel
theorem dX5_filterAll_4 : decode cX5_filterAll 4 = .ok (.iadd, 1) := by decide +kernel
theorem dX5_filterAll_5 : decode cX5_filterAll 5 = .ok (.istore 4, 2) := by decide +kernel
theorem dX5_filterAll_7 : decode cX5_filterAll 7 = .ok (.iconst 0, 1) := by decide +kernel
theorem dX5_filterAll_8 : decode cX5_filterAll 8 = .ok (.istore 5, 2) := by decide +kernel
theorem dX5_filterAll_10 : decode cX5_filterAll 10 = .ok (.iconst 0, 1) := by decide +kernel
theorem dX5_filterAll_11 : decode cX5_filterAll 11 = .ok (.istore 6, 2) := by decide +kernel
theorem dX5_filterAll_13 : decode cX5_filterAll 13 = .ok (.iload 6, 2) := by decide +kernel
theorem dX5_filterAll_15 : decode cX5_filterAll 15 = .ok (.iload_n 2, 1) := by decide +kernel
theorem dX5_filterAll_16 : decode cX5_filterAll 16 = .ok (.if_icmp .ge 78, 3) := by decide +kernel
theorem dX5_filterAll_19 : decode cX5_filterAll 19 = .ok (.iconst 0, 1) := by decide +kernel
theorem dX5_filterAll_20 : decode cX5_filterAll 20 = .ok (.istore 7, 2) := by decide +kernel
theorem dX5_filterAll_22 : decode cX5_filterAll 22 = .ok (.iload 7, 2) := by decide +kernel
theorem dX5_filterAll_24 : decode cX5_filterAll 24 = .ok (.iload_n 1, 1) := by decide +kernel
theorem dX5_filterAll_25 : decode cX5_filterAll 25 = .ok (.if_icmp .ge 63, 3) := by decide +kernel
theorem dX5_filterAll_28 : decode cX5_filterAll 28 = .ok (.iconst 4, 1) := by decide +kernel
theorem dX5_filterAll_29 : decode cX5_filterAll 29 = .ok (.iload 6, 2) := by decide +kernel
theorem dX5_filterAll_31 : decode cX5_filterAll 31 = .ok (.bipush 16, 2) := by decide +kernel
theorem dX5_filterAll_33 : decode cX5_filterAll 33 = .ok (.imul, 1) := by decide +kernel
theorem dX5_filterAll_34 : decode cX5_filterAll 34 = .ok (.iload 7, 2) := by decide +kernel
theorem dX5_filterAll_36 : decode cX5_filterAll 36 = .ok (.iadd, 1) := by decide +kernel
theorem dX5_filterAll_37 : decode cX5_filterAll 37 = .ok (.imul, 1) := by decide +kernel
theorem dX5_filterAll_38 : decode cX5_filterAll 38 = .ok (.istore 8, 2) := by decide +kernel
theorem dX5_filterAll_40 : decode cX5_filterAll 40 = .ok (.iload 7, 2) := by decide +kernel
theorem dX5_filterAll_42 : decode cX5_filterAll 42 = .ok (.ifCond .le 19, 3) := by decide +kernel
theorem dX5_filterAll_45 : decode cX5_filterAll 45 = .ok (.iload 5, 2) := by decide +kernel
theorem dX5_filterAll_47 : decode cX5_filterAll 47 = .ok (.aload_n 0, 1) := by decide +kernel
theorem dX5_filterAll_48 : decode cX5_filterAll 48 = .ok (.iload 8, 2) := by decide +kernel
theorem dX5_filterAll_50 : decode cX5_filterAll 50 = .ok (.bipush 16, 2) := by decide +kernel
theorem dX5_filterAll_52 : decode cX5_filterAll 52 = .ok (.iconst 1, 1) := by decide +kernel
theorem dX5_filterAll_53 : decode cX5_filterAll 53 = .ok (.iload 4, 2) := by decide +kernel
theorem dX5_filterAll_55 : decode cX5_filterAll 55 = .ok (.invokevirtual 37, 3) := by decide +kernel
theorem dX5_filterAll_58 : decode cX5_filterAll 58 = .ok (.iadd, 1) := by decide +kernel
theorem dX5_filterAll_59 : decode cX5_filterAll 59 = .ok (.istore 5, 2) := by decide +kernel
theorem dX5_filterAll_61 : decode cX5_filterAll 61 = .ok (.iload 6, 2) := by decide +kernel
theorem dX5_filterAll_63 : decode cX5_filterAll 63 = .ok (.ifCond .le 19, 3) := by decide +kernel
theorem dX5_filterAll_66 : decode cX5_filterAll 66 = .ok (.iload 5, 2) := by decide +kernel
theorem dX5_filterAll_68 : decode cX5_filterAll 68 = .ok (.aload_n 0, 1) := by decide +kernel
theorem dX5_filterAll_69 : decode cX5_filterAll 69 = .ok (.iload 8, 2) := by decide +kernel
theorem dX5_filterAll_71 : decode cX5_filterAll 71 = .ok (.iconst 1, 1) := by decide +kernel
theorem dX5_filterAll_72 : decode cX5_filterAll 72 = .ok (.bipush 16, 2) := by decide +kernel
theorem dX5_filterAll_74 : decode cX5_filterAll 74 = .ok (.iload 4, 2) := by decide +kernel
theorem dX5_filterAll_76 : decode cX5_filterAll 76 = .ok (.invokevirtual 37, 3) := by decide +kernel
theorem dX5_filterAll_79 : decode cX5_filterAll 79 = .ok (.iadd, 1) := by decide +kernel
theorem dX5_filterAll_80 : decode cX5_filterAll 80 = .ok (.istore 5, 2) := by decide +kernel
theorem dX5_filterAll_82 : decode cX5_filterAll 82 = .ok (.iinc 7 1, 3) := by decide +kernel
theorem dX5_filterAll_85 : decode cX5_filterAll 85 = .ok (.goto (-63), 3) := by decide +kernel
theorem dX5_filterAll_88 : decode cX5_filterAll 88 = .ok (.iinc 6 1, 3) := by decide +kernel
theorem dX5_filterAll_91 : decode cX5_filterAll 91 = .ok (.goto (-78), 3) := by decide +kernel
theorem dX5_filterAll_94 : decode cX5_filterAll 94 = .ok (.iload 5, 2) := by decide +kernel
theorem dX5_filterAll_96 : decode cX5_filterAll 96 = .ok (.ireturn, 1) := by decide +kernel
theorem dX5_filterEdge_0 : decode cX5_filterEdge 0 = .ok (.iconst 0, 1) := by decide +kernel
theorem dX5_filterEdge_1 : decode cX5_filterEdge 1 = .ok (.istore 5, 2) := by decide +kernel
theorem dX5_filterEdge_3 : decode cX5_filterEdge 3 = .ok (.iconst 0, 1) := by decide +kernel
theorem dX5_filterEdge_4 : decode cX5_filterEdge 4 = .ok (.istore 6, 2) := by decide +kernel
theorem dX5_filterEdge_6 : decode cX5_filterEdge 6 = .ok (.iload 6, 2) := by decide +kernel
theorem dX5_filterEdge_8 : decode cX5_filterEdge 8 = .ok (.iconst 4, 1) := by decide +kernel
theorem dX5_filterEdge_9 : decode cX5_filterEdge 9 = .ok (.if_icmp .ge 28, 3) := by decide +kernel
theorem dX5_filterEdge_12 : decode cX5_filterEdge 12 = .ok (.aload_n 0, 1) := by decide +kernel
theorem dX5_filterEdge_13 : decode cX5_filterEdge 13 = .ok (.iload_n 1, 1) := by decide +kernel
theorem dX5_filterEdge_14 : decode cX5_filterEdge 14 = .ok (.iload 6, 2) := by decide +kernel
theorem dX5_filterEdge_16 : decode cX5_filterEdge 16 = .ok (.iload_n 2, 1) := by decide +kernel
theorem dX5_filterEdge_17 : decode cX5_filterEdge 17 = .ok (.imul, 1) := by decide +kernel
theorem dX5_filterEdge_18 : decode cX5_filterEdge 18 = .ok (.iadd, 1) := by decide +kernel
theorem dX5_filterEdge_19 : decode cX5_filterEdge 19 = .ok (.iload_n 3, 1) := by decide +kernel
theorem dX5_filterEdge_20 : decode cX5_filterEdge 20 = .ok (.iload 4, 2) := by decide +kernel
theorem dX5_filterEdge_22 : decode cX5_filterEdge 22 = .ok (.invokevirtual 41, 3) := by decide +kernel
theorem dX5_filterEdge_25 : decode cX5_filterEdge 25 = .ok (.ifCond .eq 6, 3) := by decide +kernel
theorem dX5_filterEdge_28 : decode cX5_filterEdge 28 = .ok (.iinc 5 1, 3) := by decide +kernel
theorem dX5_filterEdge_31 : decode cX5_filterEdge 31 = .ok (.iinc 6 1, 3) := by decide +kernel
theorem dX5_filterEdge_34 : decode cX5_filterEdge 34 = .ok (.goto (-28), 3) := by decide +kernel
theorem dX5_filterEdge_37 : decode cX5_filterEdge 37 = .ok (.iload 5, 2) := by decide +kernel
theorem dX5_filterEdge_39 : decode cX5_filterEdge 39 = .ok (.ireturn, 1) := by decide +kernel
theorem dX5_filterFour_0 : decode cX5_filterFour 0 = .ok (.aload_n 0, 1) := by decide +kernel
theorem dX5_filterFour_1 : decode cX5_filterFour 1 = .ok (.getfield 9, 3) := by decide +kernel
theorem dX5_filterFour_4 : decode cX5_filterFour 4 = .ok (.iload_n 1, 1) := by decide +kernel
theorem dX5_filterFour_5 : decode cX5_filterFour 5 = .ok (.iconst 2, 1) := by decide +kernel
theorem dX5_filterFour_6 : decode cX5_filterFour 6 = .ok (.iload_n 2, 1) := by decide +kernel
theorem dX5_filterFour_7 : decode cX5_filterFour 7 = .ok (.imul, 1) := by decide +kernel
theorem dX5_filterFour_8 : decode cX5_filterFour 8 = .ok (.isub, 1) := by decide +kernel
theorem dX5_filterFour_9 : decode cX5_filterFour 9 = .ok (.iaload, 1) := by decide +kernel
theorem dX5_filterFour_10 : decode cX5_filterFour 10 = .ok (.sipush 128, 3) := by decide +kernel
theorem dX5_filterFour_13 : decode cX5_filterFour 13 = .ok (.isub, 1) := by decide +kernel
theorem dX5_filterFour_14 : decode cX5_filterFour 14 = .ok (.istore 4, 2) := by decide +kernel
theorem dX5_filterFour_16 : decode cX5_filterFour 16 = .ok (.aload_n 0, 1) := by decide +kernel
theorem dX5_filterFour_17 : decode cX5_filterFour 17 = .ok (.getfield 9, 3) := by decide +kernel
theorem dX5_filterFour_20 : decode cX5_filterFour 20 = .ok (.iload_n 1, 1) := by decide +kernel
theorem dX5_filterFour_21 : decode cX5_filterFour 21 = .ok (.iload_n 2, 1) := by decide +kernel
theorem dX5_filterFour_22 : decode cX5_filterFour 22 = .ok (.isub, 1) := by decide +kernel
theorem dX5_filterFour_23 : decode cX5_filterFour 23 = .ok (.iaload, 1) := by decide +kernel
theorem dX5_filterFour_24 : decode cX5_filterFour 24 = .ok (.sipush 128, 3) := by decide +kernel
theorem dX5_filterFour_27 : decode cX5_filterFour 27 = .ok (.isub, 1) := by decide +kernel
theorem dX5_filterFour_28 : decode cX5_filterFour 28 = .ok (.istore 5, 2) := by decide +kernel
theorem dX5_filterFour_30 : decode cX5_filterFour 30 = .ok (.aload_n 0, 1) := by decide +kernel
theorem dX5_filterFour_31 : decode cX5_filterFour 31 = .ok (.getfield 9, 3) := by decide +kernel
theorem dX5_filterFour_34 : decode cX5_filterFour 34 = .ok (.iload_n 1, 1) := by decide +kernel
theorem dX5_filterFour_35 : decode cX5_filterFour 35 = .ok (.iaload, 1) := by decide +kernel
theorem dX5_filterFour_36 : decode cX5_filterFour 36 = .ok (.sipush 128, 3) := by decide +kernel
theorem dX5_filterFour_39 : decode cX5_filterFour 39 = .ok (.isub, 1) := by decide +kernel
theorem dX5_filterFour_40 : decode cX5_filterFour 40 = .ok (.istore 6, 2) := by decide +kernel
theorem dX5_filterFour_42 : decode cX5_filterFour 42 = .ok (.aload_n 0, 1) := by decide +kernel
theorem dX5_filterFour_43 : decode cX5_filterFour 43 = .ok (.getfield 9, 3) := by decide +kernel
theorem dX5_filterFour_46 : decode cX5_filterFour 46 = .ok (.iload_n 1, 1) := by decide +kernel
theorem dX5_filterFour_47 : decode cX5_filterFour 47 = .ok (.iload_n 2, 1) := by decide +kernel
theorem dX5_filterFour_48 : decode cX5_filterFour 48 = .ok (.iadd, 1) := by decide +kernel
theorem dX5_filterFour_49 : decode cX5_filterFour 49 = .ok (.iaload, 1) := by decide +kernel
theorem dX5_filterFour_50 : decode cX5_filterFour 50 = .ok (.sipush 128, 3) := by decide +kernel
theorem dX5_filterFour_53 : decode cX5_filterFour 53 = .ok (.isub, 1) := by decide +kernel
theorem dX5_filterFour_54 : decode cX5_filterFour 54 = .ok (.istore 7, 2) := by decide +kernel
theorem dX5_filterFour_56 : decode cX5_filterFour 56 = .ok (.iconst 2, 1) := by decide +kernel
theorem dX5_filterFour_57 : decode cX5_filterFour 57 = .ok (.iload 5, 2) := by decide +kernel
theorem dX5_filterFour_59 : decode cX5_filterFour 59 = .ok (.iload 6, 2) := by decide +kernel
theorem dX5_filterFour_61 : decode cX5_filterFour 61 = .ok (.isub, 1) := by decide +kernel
theorem dX5_filterFour_62 : decode cX5_filterFour 62 = .ok (.invokestatic 45, 3) := by decide +kernel
theorem dX5_filterFour_65 : decode cX5_filterFour 65 = .ok (.imul, 1) := by decide +kernel
theorem dX5_filterFour_66 : decode cX5_filterFour 66 = .ok (.iload 4, 2) := by decide +kernel
theorem dX5_filterFour_68 : decode cX5_filterFour 68 = .ok (.iload 7, 2) := by decide +kernel
theorem dX5_filterFour_70 : decode cX5_filterFour 70 = .ok (.isub, 1) := by decide +kernel
theorem dX5_filterFour_71 : decode cX5_filterFour 71 = .ok (.invokestatic 45, 3) := by decide +kernel
theorem dX5_filterFour_74 : decode cX5_filterFour 74 = .ok (.iconst 2, 1) := by decide +kernel
theorem dX5_filterFour_75 : decode cX5_filterFour 75 = .ok (.idiv, 1) := by decide +kernel
theorem dX5_filterFour_76 : decode cX5_filterFour 76 = .ok (.iadd, 1) := by decide +kernel
theorem dX5_filterFour_77 : decode cX5_filterFour 77 = .ok (.iload_n 3, 1) := by decide +kernel
theorem dX5_filterFour_78 : decode cX5_filterFour 78 = .ok (.if_icmp .le 5, 3) := by decide +kernel
theorem dX5_filterFour_81 : decode cX5_filterFour 81 = .ok (.iconst 0, 1) := by decide +kernel
theorem dX5_filterFour_82 : decode cX5_filterFour 82 = .ok (.ireturn, 1) := by decide +kernel
theorem dX5_filterFour_83 : decode cX5_filterFour 83 = .ok (.iload 4, 2) := by decide +kernel
theorem dX5_filterFour_85 : decode cX5_filterFour 85 = .ok (.iload 7, 2) := by decide +kernel
theorem dX5_filterFour_87 : decode cX5_filterFour 87 = .ok (.isub, 1) := by decide +kernel
theorem dX5_filterFour_88 : decode cX5_filterFour 88 = .ok (.invokestatic 51, 3) := by decide +kernel
theorem dX5_filterFour_91 : decode cX5_filterFour 91 = .ok (.iconst 3, 1) := by decide +kernel
theorem dX5_filterFour_92 : decode cX5_filterFour 92 = .ok (.iload 6, 2) := by decide +kernel
theorem dX5_filterFour_94 : decode cX5_filterFour 94 = .ok (.iload 5, 2) := by decide +kernel
theorem dX5_filterFour_96 : decode cX5_filterFour 96 = .ok (.isub, 1) := by decide +kernel
theorem dX5_filterFour_97 : decode cX5_filterFour 97 = .ok (.imul, 1) := by decide +kernel
theorem dX5_filterFour_98 : decode cX5_filterFour 98 = .ok (.iadd, 1) := by decide +kernel
theorem dX5_filterFour_99 : decode cX5_filterFour 99 = .ok (.invokestatic 51, 3) := by decide +kernel
theorem dX5_filterFour_102 : decode cX5_filterFour 102 = .ok (.istore 8, 2) := by decide +kernel
theorem dX5_filterFour_104 : decode cX5_filterFour 104 = .ok (.iload 6, 2) := by decide +kernel
theorem dX5_filterFour_106 : decode cX5_filterFour 106 = .ok (.iload 8, 2) := by decide +kernel
theorem dX5_filterFour_108 : decode cX5_filterFour 108 = .ok (.iconst 4, 1) := by decide +kernel
theorem dX5_filterFour_109 : decode cX5_filterFour 109 = .ok (.iadd, 1) := by decide +kernel
theorem dX5_filterFour_110 : decode cX5_filterFour 110 = .ok (.invokestatic 51, 3) := by decide +kernel
theorem dX5_filterFour_113 : decode cX5_filterFour 113 = .ok (.iconst 3, 1) := by decide +kernel
theorem dX5_filterFour_114 : decode cX5_filterFour 114 = .ok (.ishr, 1) := by decide +kernel
theorem dX5_filterFour_115 : decode cX5_filterFour 115 = .ok (.isub, 1) := by decide +kernel
theorem dX5_filterFour_116 : decode cX5_filterFour 116 = .ok (.invokestatic 51, 3) := by decide +kernel
theorem dX5_filterFour_119 : decode cX5_filterFour 119 = .ok (.istore 9, 2) := by decide +kernel
theorem dX5_filterFour_121 : decode cX5_filterFour 121 = .ok (.iload 5, 2) := by decide +kernel
theorem dX5_filterFour_123 : decode cX5_filterFour 123 = .ok (.iload 8, 2) := by decide +kernel
theorem dX5_filterFour_125 : decode cX5_filterFour 125 = .ok (.iconst 3, 1) := by decide +kernel
theorem dX5_filterFour_126 : decode cX5_filterFour 126 = .ok (.iadd, 1) := by decide +kernel
theorem dX5_filterFour_127 : decode cX5_filterFour 127 = .ok (.invokestatic 51, 3) := by decide +kernel
theorem dX5_filterFour_130 : decode cX5_filterFour 130 = .ok (.iconst 3, 1) := by decide +kernel
theorem dX5_filterFour_131 : decode cX5_filterFour 131 = .ok (.ishr, 1) := by decide +kernel
theorem dX5_filterFour_132 : decode cX5_filterFour 132 = .ok (.iadd, 1) := by decide +kernel
theorem dX5_filterFour_133 : decode cX5_filterFour 133 = .ok (.invokestatic 51, 3) := by decide +kernel
theorem dX5_filterFour_136 : decode cX5_filterFour 136 = .ok (.istore 10, 2) := by decide +kernel
theorem dX5_filterFour_138 : decode cX5_filterFour 138 = .ok (.aload_n 0, 1) := by decide +kernel
theorem dX5_filterFour_139 : decode cX5_filterFour 139 = .ok (.getfield 9, 3) := by decide +kernel
theorem dX5_filterFour_142 : decode cX5_filterFour 142 = .ok (.iload_n 1, 1) := by decide +kernel
theorem dX5_filterFour_143 : decode cX5_filterFour 143 = .ok (.iload 9, 2) := by decide +kernel
theorem dX5_filterFour_145 : decode cX5_filterFour 145 = .ok (.sipush 128, 3) := by decide +kernel
theorem dX5_filterFour_148 : decode cX5_filterFour 148 = .ok (.iadd, 1) := by decide +kernel
theorem dX5_filterFour_149 : decode cX5_filterFour 149 = .ok (.iastore, 1) := by decide +kernel
theorem dX5_filterFour_150 : decode cX5_filterFour 150 = .ok (.aload_n 0, 1) := by decide +kernel
theorem dX5_filterFour_151 : decode cX5_filterFour 151 = .ok (.getfield 9, 3) := by decide +kernel
theorem dX5_filterFour_154 : decode cX5_filterFour 154 = .ok (.iload_n 1, 1) := by decide +kernel
theorem dX5_filterFour_155 : decode cX5_filterFour 155 = .ok (.iload_n 2, 1) := by decide +kernel
theorem dX5_filterFour_156 : decode cX5_filterFour 156 = .ok (.isub, 1) := by decide +kernel
theorem dX5_filterFour_157 : decode cX5_filterFour 157 = .ok (.iload 10, 2) := by decide +kernel
theorem dX5_filterFour_159 : decode cX5_filterFour 159 = .ok (.sipush 128, 3) := by decide +kernel
theorem dX5_filterFour_162 : decode cX5_filterFour 162 = .ok (.iadd, 1) := by decide +kernel
theorem dX5_filterFour_163 : decode cX5_filterFour 163 = .ok (.iastore, 1) := by decide +kernel
theorem dX5_filterFour_164 : decode cX5_filterFour 164 = .ok (.iload 9, 2) := by decide +kernel
theorem dX5_filterFour_166 : decode cX5_filterFour 166 = .ok (.iload 6, 2) := by decide +kernel
theorem dX5_filterFour_168 : decode cX5_filterFour 168 = .ok (.if_icmp .ne 10, 3) := by decide +kernel
theorem dX5_filterFour_171 : decode cX5_filterFour 171 = .ok (.iload 10, 2) := by decide +kernel
theorem dX5_filterFour_173 : decode cX5_filterFour 173 = .ok (.iload 5, 2) := by decide +kernel
theorem dX5_filterFour_175 : decode cX5_filterFour 175 = .ok (.if_icmp .eq 7, 3) := by decide +kernel
theorem dX5_filterFour_178 : decode cX5_filterFour 178 = .ok (.iconst 1, 1) := by decide +kernel
theorem dX5_filterFour_179 : decode cX5_filterFour 179 = .ok (.goto 4, 3) := by decide +kernel
theorem dX5_filterFour_182 : decode cX5_filterFour 182 = .ok (.iconst 0, 1) := by decide +kernel
theorem dX5_filterFour_183 : decode cX5_filterFour 183 = .ok (.ireturn, 1) := by decide +kernel
theorem dX5_small_0 : decode cX5_small 0 = .ok (.iload_n 0, 1) := by decide +kernel
theorem dX5_small_1 : decode cX5_small 1 = .ok (.i2l, 1) := by decide +kernel
theorem dX5_small_2 : decode cX5_small 2 = .ok (.bipush (-128), 2) := by decide +kernel
theorem dX5_small_4 : decode cX5_small 4 = .ok (.bipush 127, 2) := by decide +kernel
theorem dX5_small_6 : decode cX5_small 6 = .ok (.invokestatic 31, 3) := by decide +kernel
theorem dX5_small_9 : decode cX5_small 9 = .ok (.ireturn, 1) := by decide +kernel
theorem dX6_init_0 : decode cX6_init 0 = .ok (.aload_n 0, 1) := by decide +kernel
theorem dX6_init_1 : decode cX6_init 1 = .ok (.invokespecial 1, 3) := by decide +kernel
theorem dX6_init_4 : decode cX6_init 4 = .ok (.aload_n 0, 1) := by decide +kernel
theorem dX6_init_5 : decode cX6_init 5 = .ok (.bipush 16, 2) := by decide +kernel
theorem dX6_init_7 : decode cX6_init 7 = .ok (.newarray .long, 2) := by decide +kernel
theorem dX6_init_9 : decode cX6_init 9 = .ok (.putfield 7, 3) := by decide +kernel
theorem dX6_init_12 : decode cX6_init 12 = .ok (.return_, 1) := by decide +kernel
theorem dX6_layOut_0 : decode cX6_layOut 0 = .ok (.iconst 4, 1) := by decide +kernel
theorem dX6_layOut_1 : decode cX6_layOut 1 = .ok (.iload_n 3, 1) := by decide +kernel
theorem dX6_layOut_2 : decode cX6_layOut 2 = .ok (.iadd, 1) := by decide +kernel
theorem dX6_layOut_3 : decode cX6_layOut 3 = .ok (.istore 4, 2) := by decide +kernel
theorem dX6_layOut_5 : decode cX6_layOut 5 = .ok (.iconst 0, 1) := by decide +kernel
theorem dX6_layOut_6 : decode cX6_layOut 6 = .ok (.istore 5, 2) := by decide +kernel
theorem dX6_layOut_8 : decode cX6_layOut 8 = .ok (.iload 5, 2) := by decide +kernel
theorem dX6_layOut_10 : decode cX6_layOut 10 = .ok (.bipush 16, 2) := by decide +kernel
theorem dX6_layOut_12 : decode cX6_layOut 12 = .ok (.if_icmp .ge 40, 3) := by decide +kernel
theorem dX6_layOut_15 : decode cX6_layOut 15 = .ok (.aload_n 0, 1) := by decide +kernel
theorem dX6_layOut_16 : decode cX6_layOut 16 = .ok (.getfield 7, 3) := by decide +kernel
theorem dX6_layOut_19 : decode cX6_layOut 19 = .ok (.getstatic 15, 3) := by decide +kernel
theorem dX6_layOut_22 : decode cX6_layOut 22 = .ok (.iload 5, 2) := by decide +kernel
theorem dX6_layOut_24 : decode cX6_layOut 24 = .ok (.iaload, 1) := by decide +kernel
theorem dX6_layOut_25 : decode cX6_layOut 25 = .ok (.aload_n 1, 1) := by decide +kernel
theorem dX6_layOut_26 : decode cX6_layOut 26 = .ok (.iload_n 2, 1) := by decide +kernel
theorem dX6_layOut_27 : decode cX6_layOut 27 = .ok (.iload 5, 2) := by decide +kernel
theorem dX6_layOut_29 : decode cX6_layOut 29 = .ok (.iadd, 1) := by decide +kernel
theorem dX6_layOut_30 : decode cX6_layOut 30 = .ok (.iaload, 1) := by decide +kernel
theorem dX6_layOut_31 : decode cX6_layOut 31 = .ok (.i2l, 1) := by decide +kernel
theorem dX6_layOut_32 : decode cX6_layOut 32 = .ok (.iload 4, 2) := by decide +kernel
theorem dX6_layOut_34 : decode cX6_layOut 34 = .ok (.i2l, 1) := by decide +kernel
theorem dX6_layOut_35 : decode cX6_layOut 35 = .ok (.lmul, 1) := by decide +kernel
theorem dX6_layOut_36 : decode cX6_layOut 36 = .ok (.lastore, 1) := by decide +kernel
theorem dX6_layOut_37 : decode cX6_layOut 37 = .ok (.iconst 4, 1) := by decide +kernel
theorem dX6_layOut_38 : decode cX6_layOut 38 = .ok (.iload_n 3, 1) := by decide +kernel
theorem dX6_layOut_39 : decode cX6_layOut 39 = .ok (.iadd, 1) := by decide +kernel
theorem dX6_layOut_40 : decode cX6_layOut 40 = .ok (.iload_n 3, 1) := by decide +kernel
theorem dX6_layOut_41 : decode cX6_layOut 41 = .ok (.iconst 2, 1) := by decide +kernel
theorem dX6_layOut_42 : decode cX6_layOut 42 = .ok (.idiv, 1) := by decide +kernel
theorem dX6_layOut_43 : decode cX6_layOut 43 = .ok (.iadd, 1) := by decide +kernel
theorem dX6_layOut_44 : decode cX6_layOut 44 = .ok (.istore 4, 2) := by decide +kernel
theorem dX6_layOut_46 : decode cX6_layOut 46 = .ok (.iinc 5 1, 3) := by decide +kernel
theorem dX6_layOut_49 : decode cX6_layOut 49 = .ok (.goto (-41), 3) := by decide +kernel
theorem dX6_layOut_52 : decode cX6_layOut 52 = .ok (.return_, 1) := by decide +kernel
theorem dX6_turnBack_0 : decode cX6_turnBack 0 = .ok (.iconst 0, 1) := by decide +kernel
theorem dX6_turnBack_1 : decode cX6_turnBack 1 = .ok (.istore_n 1, 1) := by decide +kernel
theorem dX6_turnBack_2 : decode cX6_turnBack 2 = .ok (.iload_n 1, 1) := by decide +kernel
theorem dX6_turnBack_3 : decode cX6_turnBack 3 = .ok (.iconst 4, 1) := by decide +kernel
theorem dX6_turnBack_4 : decode cX6_turnBack 4 = .ok (.if_icmp .ge 15, 3) := by decide +kernel
theorem dX6_turnBack_7 : decode cX6_turnBack 7 = .ok (.aload_n 0, 1) := by decide +kernel
theorem dX6_turnBack_8 : decode cX6_turnBack 8 = .ok (.iload_n 1, 1) := by decide +kernel
theorem dX6_turnBack_9 : decode cX6_turnBack 9 = .ok (.iconst 4, 1) := by decide +kernel
theorem dX6_turnBack_10 : decode cX6_turnBack 10 = .ok (.invokevirtual 19, 3) := by decide +kernel
theorem dX6_turnBack_13 : decode cX6_turnBack 13 = .ok (.iinc 1 1, 3) := by decide +kernel
theorem dX6_turnBack_16 : decode cX6_turnBack 16 = .ok (.goto (-14), 3) := by decide +kernel
theorem dX6_turnBack_19 : decode cX6_turnBack 19 = .ok (.iconst 0, 1) := by decide +kernel
theorem dX6_turnBack_20 : decode cX6_turnBack 20 = .ok (.istore_n 1, 1) := by decide +kernel
theorem dX6_turnBack_21 : decode cX6_turnBack 21 = .ok (.iload_n 1, 1) := by decide +kernel
theorem dX6_turnBack_22 : decode cX6_turnBack 22 = .ok (.iconst 4, 1) := by decide +kernel
theorem dX6_turnBack_23 : decode cX6_turnBack 23 = .ok (.if_icmp .ge 17, 3) := by decide +kernel
theorem dX6_turnBack_26 : decode cX6_turnBack 26 = .ok (.aload_n 0, 1) := by decide +kernel
theorem dX6_turnBack_27 : decode cX6_turnBack 27 = .ok (.iconst 4, 1) := by decide +kernel
theorem dX6_turnBack_28 : decode cX6_turnBack 28 = .ok (.iload_n 1, 1) := by decide +kernel
theorem dX6_turnBack_29 : decode cX6_turnBack 29 = .ok (.imul, 1) := by decide +kernel
theorem dX6_turnBack_30 : decode cX6_turnBack 30 = .ok (.iconst 1, 1) := by decide +kernel
theorem dX6_turnBack_31 : decode cX6_turnBack 31 = .ok (.invokevirtual 19, 3) := by decide +kernel
theorem dX6_turnBack_34 : decode cX6_turnBack 34 = .ok (.iinc 1 1, 3) := by decide +kernel
theorem dX6_turnBack_37 : decode cX6_turnBack 37 = .ok (.goto (-16), 3) := by decide +kernel
theorem dX6_turnBack_40 : decode cX6_turnBack 40 = .ok (.iconst 0, 1) := by decide +kernel
theorem dX6_turnBack_41 : decode cX6_turnBack 41 = .ok (.istore_n 1, 1) := by decide +kernel
theorem dX6_turnBack_42 : decode cX6_turnBack 42 = .ok (.iload_n 1, 1) := by decide +kernel
theorem dX6_turnBack_43 : decode cX6_turnBack 43 = .ok (.bipush 16, 2) := by decide +kernel
theorem dX6_turnBack_45 : decode cX6_turnBack 45 = .ok (.if_icmp .ge 27, 3) := by decide +kernel
theorem dX6_turnBack_48 : decode cX6_turnBack 48 = .ok (.aload_n 0, 1) := by decide +kernel
theorem dX6_turnBack_49 : decode cX6_turnBack 49 = .ok (.getfield 7, 3) := by decide +kernel
theorem dX6_turnBack_52 : decode cX6_turnBack 52 = .ok (.iload_n 1, 1) := by decide +kernel
theorem dX6_turnBack_53 : decode cX6_turnBack 53 = .ok (.aload_n 0, 1) := by decide +kernel
theorem dX6_turnBack_54 : decode cX6_turnBack 54 = .ok (.getfield 7, 3) := by decide +kernel
theorem dX6_turnBack_57 : decode cX6_turnBack 57 = .ok (.iload_n 1, 1) := by decide +kernel
theorem dX6_turnBack_58 : decode cX6_turnBack 58 = .ok (.laload, 1) := by decide +kernel
theorem dX6_turnBack_59 : decode cX6_turnBack 59 = .ok (.ldc2_w 23, 3) := by decide +kernel
theorem dX6_turnBack_62 : decode cX6_turnBack 62 = .ok (.ladd, 1) := by decide +kernel
theorem dX6_turnBack_63 : decode cX6_turnBack 63 = .ok (.iconst 3, 1) := by decide +kernel
theorem dX6_turnBack_64 : decode cX6_turnBack 64 = .ok (.lshr, 1) := by decide +kernel
theorem dX6_turnBack_65 : decode cX6_turnBack 65 = .ok (.lastore, 1) := by decide +kernel
theorem dX6_turnBack_66 : decode cX6_turnBack 66 = .ok (.iinc 1 1, 3) := by decide +kernel
theorem dX6_turnBack_69 : decode cX6_turnBack 69 = .ok (.goto (-27), 3) := by decide +kernel
theorem dX6_turnBack_72 : decode cX6_turnBack 72 = .ok (.return_, 1) := by decide +kernel
theorem dX6_turnFour_0 : decode cX6_turnFour 0 = .ok (.aload_n 0, 1) := by decide +kernel
theorem dX6_turnFour_1 : decode cX6_turnFour 1 = .ok (.getfield 7, 3) := by decide +kernel
theorem dX6_turnFour_4 : decode cX6_turnFour 4 = .ok (.iload_n 1, 1) := by decide +kernel
theorem dX6_turnFour_5 : decode cX6_turnFour 5 = .ok (.laload, 1) := by decide +kernel
theorem dX6_turnFour_6 : decode cX6_turnFour 6 = .ok (.lstore_n 3, 1) := by decide +kernel
theorem dX6_turnFour_7 : decode cX6_turnFour 7 = .ok (.aload_n 0, 1) := by decide +kernel
theorem dX6_turnFour_8 : decode cX6_turnFour 8 = .ok (.getfield 7, 3) := by decide +kernel
theorem dX6_turnFour_11 : decode cX6_turnFour 11 = .ok (.iload_n 1, 1) := by decide +kernel
theorem dX6_turnFour_12 : decode cX6_turnFour 12 = .ok (.iload_n 2, 1) := by decide +kernel
theorem dX6_turnFour_13 : decode cX6_turnFour 13 = .ok (.iadd, 1) := by decide +kernel
theorem dX6_turnFour_14 : decode cX6_turnFour 14 = .ok (.laload, 1) := by decide +kernel
theorem dX6_turnFour_15 : decode cX6_turnFour 15 = .ok (.lstore 5, 2) := by decide +kernel
theorem dX6_turnFour_17 : decode cX6_turnFour 17 = .ok (.aload_n 0, 1) := by decide +kernel
theorem dX6_turnFour_18 : decode cX6_turnFour 18 = .ok (.getfield 7, 3) := by decide +kernel
theorem dX6_turnFour_21 : decode cX6_turnFour 21 = .ok (.iload_n 1, 1) := by decide +kernel
theorem dX6_turnFour_22 : decode cX6_turnFour 22 = .ok (.iconst 2, 1) := by decide +kernel
theorem dX6_turnFour_23 : decode cX6_turnFour 23 = .ok (.iload_n 2, 1) := by decide +kernel
theorem dX6_turnFour_24 : decode cX6_turnFour 24 = .ok (.imul, 1) := by decide +kernel
theorem dX6_turnFour_25 : decode cX6_turnFour 25 = .ok (.iadd, 1) := by decide +kernel
theorem dX6_turnFour_26 : decode cX6_turnFour 26 = .ok (.laload, 1) := by decide +kernel
theorem dX6_turnFour_27 : decode cX6_turnFour 27 = .ok (.lstore 7, 2) := by decide +kernel
theorem dX6_turnFour_29 : decode cX6_turnFour 29 = .ok (.aload_n 0, 1) := by decide +kernel
theorem dX6_turnFour_30 : decode cX6_turnFour 30 = .ok (.getfield 7, 3) := by decide +kernel
theorem dX6_turnFour_33 : decode cX6_turnFour 33 = .ok (.iload_n 1, 1) := by decide +kernel
theorem dX6_turnFour_34 : decode cX6_turnFour 34 = .ok (.iconst 3, 1) := by decide +kernel
theorem dX6_turnFour_35 : decode cX6_turnFour 35 = .ok (.iload_n 2, 1) := by decide +kernel
theorem dX6_turnFour_36 : decode cX6_turnFour 36 = .ok (.imul, 1) := by decide +kernel
theorem dX6_turnFour_37 : decode cX6_turnFour 37 = .ok (.iadd, 1) := by decide +kernel
theorem dX6_turnFour_38 : decode cX6_turnFour 38 = .ok (.laload, 1) := by decide +kernel
theorem dX6_turnFour_39 : decode cX6_turnFour 39 = .ok (.lstore 9, 2) := by decide +kernel
theorem dX6_turnFour_41 : decode cX6_turnFour 41 = .ok (.lload_n 3, 1) := by decide +kernel
theorem dX6_turnFour_42 : decode cX6_turnFour 42 = .ok (.lload 7, 2) := by decide +kernel
theorem dX6_turnFour_44 : decode cX6_turnFour 44 = .ok (.ladd, 1) := by decide +kernel
theorem dX6_turnFour_45 : decode cX6_turnFour 45 = .ok (.lstore 11, 2) := by decide +kernel
theorem dX6_turnFour_47 : decode cX6_turnFour 47 = .ok (.lload_n 3, 1) := by decide +kernel
theorem dX6_turnFour_48 : decode cX6_turnFour 48 = .ok (.lload 7, 2) := by decide +kernel
theorem dX6_turnFour_50 : decode cX6_turnFour 50 = .ok (.lsub, 1) := by decide +kernel
theorem dX6_turnFour_51 : decode cX6_turnFour 51 = .ok (.lstore 13, 2) := by decide +kernel
theorem dX6_turnFour_53 : decode cX6_turnFour 53 = .ok (.lload 5, 2) := by decide +kernel
theorem dX6_turnFour_55 : decode cX6_turnFour 55 = .ok (.invokestatic 25, 3) := by decide +kernel
theorem dX6_turnFour_58 : decode cX6_turnFour 58 = .ok (.lload 9, 2) := by decide +kernel
theorem dX6_turnFour_60 : decode cX6_turnFour 60 = .ok (.invokestatic 29, 3) := by decide +kernel
theorem dX6_turnFour_63 : decode cX6_turnFour 63 = .ok (.lsub, 1) := by decide +kernel
theorem dX6_turnFour_64 : decode cX6_turnFour 64 = .ok (.lstore 15, 2) := by decide +kernel
theorem dX6_turnFour_66 : decode cX6_turnFour 66 = .ok (.lload 5, 2) := by decide +kernel
theorem dX6_turnFour_68 : decode cX6_turnFour 68 = .ok (.invokestatic 29, 3) := by decide +kernel
theorem dX6_turnFour_71 : decode cX6_turnFour 71 = .ok (.lload 9, 2) := by decide +kernel
theorem dX6_turnFour_73 : decode cX6_turnFour 73 = .ok (.invokestatic 25, 3) := by decide +kernel
theorem dX6_turnFour_76 : decode cX6_turnFour 76 = .ok (.ladd, 1) := by decide +kernel
theorem dX6_turnFour_77 : decode cX6_turnFour 77 = .ok (.lstore 17, 2) := by decide +kernel
theorem dX6_turnFour_79 : decode cX6_turnFour 79 = .ok (.aload_n 0, 1) := by decide +kernel
theorem dX6_turnFour_80 : decode cX6_turnFour 80 = .ok (.getfield 7, 3) := by decide +kernel
theorem dX6_turnFour_83 : decode cX6_turnFour 83 = .ok (.iload_n 1, 1) := by decide +kernel
theorem dX6_turnFour_84 : decode cX6_turnFour 84 = .ok (.lload 11, 2) := by decide +kernel
theorem dX6_turnFour_86 : decode cX6_turnFour 86 = .ok (.lload 17, 2) := by decide +kernel
theorem dX6_turnFour_88 : decode cX6_turnFour 88 = .ok (.ladd, 1) := by decide +kernel
theorem dX6_turnFour_89 : decode cX6_turnFour 89 = .ok (.lastore, 1) := by decide +kernel
theorem dX6_turnFour_90 : decode cX6_turnFour 90 = .ok (.aload_n 0, 1) := by decide +kernel
theorem dX6_turnFour_91 : decode cX6_turnFour 91 = .ok (.getfield 7, 3) := by decide +kernel
theorem dX6_turnFour_94 : decode cX6_turnFour 94 = .ok (.iload_n 1, 1) := by decide +kernel
theorem dX6_turnFour_95 : decode cX6_turnFour 95 = .ok (.iload_n 2, 1) := by decide +kernel
theorem dX6_turnFour_96 : decode cX6_turnFour 96 = .ok (.iadd, 1) := by decide +kernel
theorem dX6_turnFour_97 : decode cX6_turnFour 97 = .ok (.lload 13, 2) := by decide +kernel
theorem dX6_turnFour_99 : decode cX6_turnFour 99 = .ok (.lload 15, 2) := by decide +kernel
theorem dX6_turnFour_101 : decode cX6_turnFour 101 = .ok (.ladd, 1) := by decide +kernel
theorem dX6_turnFour_102 : decode cX6_turnFour 102 = .ok (.lastore, 1) := by decide +kernel
theorem dX6_turnFour_103 : decode cX6_turnFour 103 = .ok (.aload_n 0, 1) := by decide +kernel
theorem dX6_turnFour_104 : decode cX6_turnFour 104 = .ok (.getfield 7, 3) := by decide +kernel
theorem dX6_turnFour_107 : decode cX6_turnFour 107 = .ok (.iload_n 1, 1) := by decide +kernel
theorem dX6_turnFour_108 : decode cX6_turnFour 108 = .ok (.iconst 2, 1) := by decide +kernel
theorem dX6_turnFour_109 : decode cX6_turnFour 109 = .ok (.iload_n 2, 1) := by decide +kernel
theorem dX6_turnFour_110 : decode cX6_turnFour 110 = .ok (.imul, 1) := by decide +kernel
theorem dX6_turnFour_111 : decode cX6_turnFour 111 = .ok (.iadd, 1) := by decide +kernel
theorem dX6_turnFour_112 : decode cX6_turnFour 112 = .ok (.lload 13, 2) := by decide +kernel
theorem dX6_turnFour_114 : decode cX6_turnFour 114 = .ok (.lload 15, 2) := by decide +kernel
theorem dX6_turnFour_116 : decode cX6_turnFour 116 = .ok (.lsub, 1) := by decide +kernel
theorem dX6_turnFour_117 : decode cX6_turnFour 117 = .ok (.lastore, 1) := by decide +kernel
theorem dX6_turnFour_118 : decode cX6_turnFour 118 = .ok (.aload_n 0, 1) := by decide +kernel
theorem dX6_turnFour_119 : decode cX6_turnFour 119 = .ok (.getfield 7, 3) := by decide +kernel
theorem dX6_turnFour_122 : decode cX6_turnFour 122 = .ok (.iload_n 1, 1) := by decide +kernel
theorem dX6_turnFour_123 : decode cX6_turnFour 123 = .ok (.iconst 3, 1) := by decide +kernel
theorem dX6_turnFour_124 : decode cX6_turnFour 124 = .ok (.iload_n 2, 1) := by decide +kernel
theorem dX6_turnFour_125 : decode cX6_turnFour 125 = .ok (.imul, 1) := by decide +kernel
theorem dX6_turnFour_126 : decode cX6_turnFour 126 = .ok (.iadd, 1) := by decide +kernel
theorem dX6_turnFour_127 : decode cX6_turnFour 127 = .ok (.lload 11, 2) := by decide +kernel
theorem dX6_turnFour_129 : decode cX6_turnFour 129 = .ok (.lload 17, 2) := by decide +kernel
theorem dX6_turnFour_131 : decode cX6_turnFour 131 = .ok (.lsub, 1) := by decide +kernel
theorem dX6_turnFour_132 : decode cX6_turnFour 132 = .ok (.lastore, 1) := by decide +kernel
theorem dX6_turnFour_133 : decode cX6_turnFour 133 = .ok (.return_, 1) := by decide +kernel
theorem dX6_timesM_0 : decode cX6_timesM 0 = .ok (.lload_n 0, 1) := by decide +kernel
theorem dX6_timesM_1 : decode cX6_timesM 1 = .ok (.lload_n 0, 1) := by decide +kernel
theorem dX6_timesM_2 : decode cX6_timesM 2 = .ok (.ldc2_w 32, 3) := by decide +kernel
theorem dX6_timesM_5 : decode cX6_timesM 5 = .ok (.lmul, 1) := by decide +kernel
theorem dX6_timesM_6 : decode cX6_timesM 6 = .ok (.bipush 16, 2) := by decide +kernel
theorem dX6_timesM_8 : decode cX6_timesM 8 = .ok (.lshr, 1) := by decide +kernel
theorem dX6_timesM_9 : decode cX6_timesM 9 = .ok (.ladd, 1) := by decide +kernel
theorem dX6_timesM_10 : decode cX6_timesM 10 = .ok (.lreturn, 1) := by decide +kernel
theorem dX6_timesH_0 : decode cX6_timesH 0 = .ok (.lload_n 0, 1) := by decide +kernel
theorem dX6_timesH_1 : decode cX6_timesH 1 = .ok (.ldc2_w 34, 3) := by decide +kernel
theorem dX6_timesH_4 : decode cX6_timesH 4 = .ok (.lmul, 1) := by decide +kernel
theorem dX6_timesH_5 : decode cX6_timesH 5 = .ok (.bipush 16, 2) := by decide +kernel
theorem dX6_timesH_7 : decode cX6_timesH 7 = .ok (.lshr, 1) := by decide +kernel
theorem dX6_timesH_8 : decode cX6_timesH 8 = .ok (.lreturn, 1) := by decide +kernel
theorem dX7_init_0 : decode cX7_init 0 = .ok (.aload_n 0, 1) := by decide +kernel
theorem dX7_init_1 : decode cX7_init 1 = .ok (.invokespecial 1, 3) := by decide +kernel
theorem dX7_init_4 : decode cX7_init 4 = .ok (.aload_n 0, 1) := by decide +kernel
theorem dX7_init_5 : decode cX7_init 5 = .ok (.new 7, 3) := by decide +kernel
theorem dX7_init_8 : decode cX7_init 8 = .ok (.dup, 1) := by decide +kernel
theorem dX7_init_9 : decode cX7_init 9 = .ok (.invokespecial 9, 3) := by decide +kernel
theorem dX7_init_12 : decode cX7_init 12 = .ok (.putfield 10, 3) := by decide +kernel
theorem dX7_init_15 : decode cX7_init 15 = .ok (.aload_n 0, 1) := by decide +kernel
theorem dX7_init_16 : decode cX7_init 16 = .ok (.new 16, 3) := by decide +kernel
theorem dX7_init_19 : decode cX7_init 19 = .ok (.dup, 1) := by decide +kernel
theorem dX7_init_20 : decode cX7_init 20 = .ok (.aload_n 0, 1) := by decide +kernel
theorem dX7_init_21 : decode cX7_init 21 = .ok (.getfield 10, 3) := by decide +kernel
theorem dX7_init_24 : decode cX7_init 24 = .ok (.invokespecial 18, 3) := by decide +kernel
theorem dX7_init_27 : decode cX7_init 27 = .ok (.putfield 21, 3) := by decide +kernel
theorem dX7_init_30 : decode cX7_init 30 = .ok (.aload_n 0, 1) := by decide +kernel
theorem dX7_init_31 : decode cX7_init 31 = .ok (.new 25, 3) := by decide +kernel
theorem dX7_init_34 : decode cX7_init 34 = .ok (.dup, 1) := by decide +kernel
theorem dX7_init_35 : decode cX7_init 35 = .ok (.aload_n 0, 1) := by decide +kernel
theorem dX7_init_36 : decode cX7_init 36 = .ok (.getfield 10, 3) := by decide +kernel
theorem dX7_init_39 : decode cX7_init 39 = .ok (.invokespecial 27, 3) := by decide +kernel
theorem dX7_init_42 : decode cX7_init 42 = .ok (.putfield 28, 3) := by decide +kernel
theorem dX7_init_45 : decode cX7_init 45 = .ok (.aload_n 0, 1) := by decide +kernel
theorem dX7_init_46 : decode cX7_init 46 = .ok (.new 32, 3) := by decide +kernel
theorem dX7_init_49 : decode cX7_init 49 = .ok (.dup, 1) := by decide +kernel
theorem dX7_init_50 : decode cX7_init 50 = .ok (.invokespecial 34, 3) := by decide +kernel
theorem dX7_init_53 : decode cX7_init 53 = .ok (.putfield 35, 3) := by decide +kernel
theorem dX7_init_56 : decode cX7_init 56 = .ok (.aload_n 0, 1) := by decide +kernel
theorem dX7_init_57 : decode cX7_init 57 = .ok (.iconst 0, 1) := by decide +kernel
theorem dX7_init_58 : decode cX7_init 58 = .ok (.putfield 39, 3) := by decide +kernel
theorem dX7_init_61 : decode cX7_init 61 = .ok (.return_, 1) := by decide +kernel
theorem dX7_feed_0 : decode cX7_feed 0 = .ok (.iload_n 1, 1) := by decide +kernel
theorem dX7_feed_1 : decode cX7_feed 1 = .ok (.ifCond .lt 9, 3) := by decide +kernel
theorem dX7_feed_4 : decode cX7_feed 4 = .ok (.iload_n 1, 1) := by decide +kernel
theorem dX7_feed_5 : decode cX7_feed 5 = .ok (.bipush 16, 2) := by decide +kernel
theorem dX7_feed_7 : decode cX7_feed 7 = .ok (.if_icmp .le 13, 3) := by decide +kernel
theorem dX7_feed_10 : decode cX7_feed 10 = .ok (.new 43, 3) := by decide +kernel
theorem dX7_feed_13 : decode cX7_feed 13 = .ok (.dup, 1) := by decide +kernel
theorem dX7_feed_14 : decode cX7_feed 14 = .ok (.ldc 45, 2) := by decide +kernel
theorem dX7_feed_16 : decode cX7_feed 16 = .ok (.invokespecial 47, 3) := by decide +kernel
theorem dX7_feed_19 : decode cX7_feed 19 = .ok (.athrow, 1) := by decide +kernel
theorem dX7_feed_20 : decode cX7_feed 20 = .ok (.aload_n 0, 1) := by decide +kernel
theorem dX7_feed_21 : decode cX7_feed 21 = .ok (.getfield 10, 3) := by decide +kernel
theorem dX7_feed_24 : decode cX7_feed 24 = .ok (.invokevirtual 50, 3) := by decide +kernel
theorem dX7_feed_27 : decode cX7_feed 27 = .ok (.iload_n 1, 1) := by decide +kernel
theorem dX7_feed_28 : decode cX7_feed 28 = .ok (.iadd, 1) := by decide +kernel
theorem dX7_feed_29 : decode cX7_feed 29 = .ok (.sipush 600, 3) := by decide +kernel
theorem dX7_feed_32 : decode cX7_feed 32 = .ok (.if_icmp .le 13, 3) := by decide +kernel
theorem dX7_feed_35 : decode cX7_feed 35 = .ok (.new 54, 3) := by decide +kernel
theorem dX7_feed_38 : decode cX7_feed 38 = .ok (.dup, 1) := by decide +kernel
theorem dX7_feed_39 : decode cX7_feed 39 = .ok (.ldc 56, 2) := by decide +kernel
theorem dX7_feed_41 : decode cX7_feed 41 = .ok (.invokespecial 58, 3) := by decide +kernel
theorem dX7_feed_44 : decode cX7_feed 44 = .ok (.athrow, 1) := by decide +kernel
theorem dX7_feed_45 : decode cX7_feed 45 = .ok (.aload_n 0, 1) := by decide +kernel
theorem dX7_feed_46 : decode cX7_feed 46 = .ok (.iconst 0, 1) := by decide +kernel
theorem dX7_feed_47 : decode cX7_feed 47 = .ok (.putfield 39, 3) := by decide +kernel
theorem dX7_feed_50 : decode cX7_feed 50 = .ok (.iconst 0, 1) := by decide +kernel
theorem dX7_feed_51 : decode cX7_feed 51 = .ok (.istore 6, 2) := by decide +kernel
theorem dX7_feed_53 : decode cX7_feed 53 = .ok (.iload 6, 2) := by decide +kernel
theorem dX7_feed_55 : decode cX7_feed 55 = .ok (.iload_n 1, 1) := by decide +kernel
theorem dX7_feed_56 : decode cX7_feed 56 = .ok (.if_icmp .ge 66, 3) := by decide +kernel
theorem dX7_feed_59 : decode cX7_feed 59 = .ok (.iload 6, 2) := by decide +kernel
theorem dX7_feed_61 : decode cX7_feed 61 = .ok (.iconst 4, 1) := by decide +kernel
theorem dX7_feed_62 : decode cX7_feed 62 = .ok (.if_icmp .ge 7, 3) := by decide +kernel
theorem dX7_feed_65 : decode cX7_feed 65 = .ok (.iload_n 2, 1) := by decide +kernel
theorem dX7_feed_66 : decode cX7_feed 66 = .ok (.goto 28, 3) := by decide +kernel
theorem dX7_feed_69 : decode cX7_feed 69 = .ok (.iload 6, 2) := by decide +kernel
theorem dX7_feed_71 : decode cX7_feed 71 = .ok (.bipush 8, 2) := by decide +kernel
theorem dX7_feed_73 : decode cX7_feed 73 = .ok (.if_icmp .ge 7, 3) := by decide +kernel
theorem dX7_feed_76 : decode cX7_feed 76 = .ok (.iload_n 3, 1) := by decide +kernel
theorem dX7_feed_77 : decode cX7_feed 77 = .ok (.goto 17, 3) := by decide +kernel
theorem dX7_feed_80 : decode cX7_feed 80 = .ok (.iload 6, 2) := by decide +kernel
theorem dX7_feed_82 : decode cX7_feed 82 = .ok (.bipush 12, 2) := by decide +kernel
theorem dX7_feed_84 : decode cX7_feed 84 = .ok (.if_icmp .ge 8, 3) := by decide +kernel
theorem dX7_feed_87 : decode cX7_feed 87 = .ok (.iload 4, 2) := by decide +kernel
theorem dX7_feed_89 : decode cX7_feed 89 = .ok (.goto 5, 3) := by decide +kernel
theorem dX7_feed_92 : decode cX7_feed 92 = .ok (.iload 5, 2) := by decide +kernel
theorem dX7_feed_94 : decode cX7_feed 94 = .ok (.istore 7, 2) := by decide +kernel
theorem dX7_feed_96 : decode cX7_feed 96 = .ok (.aload_n 0, 1) := by decide +kernel
theorem dX7_feed_97 : decode cX7_feed 97 = .ok (.getfield 10, 3) := by decide +kernel
theorem dX7_feed_100 : decode cX7_feed 100 = .ok (.iload 7, 2) := by decide +kernel
theorem dX7_feed_102 : decode cX7_feed 102 = .ok (.bipush 24, 2) := by decide +kernel
theorem dX7_feed_104 : decode cX7_feed 104 = .ok (.bipush 8, 2) := by decide +kernel
theorem dX7_feed_106 : decode cX7_feed 106 = .ok (.iload 6, 2) := by decide +kernel
theorem dX7_feed_108 : decode cX7_feed 108 = .ok (.iconst 4, 1) := by decide +kernel
theorem dX7_feed_109 : decode cX7_feed 109 = .ok (.irem, 1) := by decide +kernel
theorem dX7_feed_110 : decode cX7_feed 110 = .ok (.imul, 1) := by decide +kernel
theorem dX7_feed_111 : decode cX7_feed 111 = .ok (.isub, 1) := by decide +kernel
theorem dX7_feed_112 : decode cX7_feed 112 = .ok (.iushr, 1) := by decide +kernel
theorem dX7_feed_113 : decode cX7_feed 113 = .ok (.invokevirtual 59, 3) := by decide +kernel
theorem dX7_feed_116 : decode cX7_feed 116 = .ok (.iinc 6 1, 3) := by decide +kernel
theorem dX7_feed_119 : decode cX7_feed 119 = .ok (.goto (-66), 3) := by decide +kernel
theorem dX7_feed_122 : decode cX7_feed 122 = .ok (.aload_n 0, 1) := by decide +kernel
theorem dX7_feed_123 : decode cX7_feed 123 = .ok (.getfield 10, 3) := by decide +kernel
theorem dX7_feed_126 : decode cX7_feed 126 = .ok (.invokevirtual 50, 3) := by decide +kernel
theorem dX7_feed_129 : decode cX7_feed 129 = .ok (.ireturn, 1) := by decide +kernel
theorem dX7_erase_0 : decode cX7_erase 0 = .ok (.aload_n 0, 1) := by decide +kernel
theorem dX7_erase_1 : decode cX7_erase 1 = .ok (.getfield 10, 3) := by decide +kernel
theorem dX7_erase_4 : decode cX7_erase 4 = .ok (.invokevirtual 50, 3) := by decide +kernel
theorem dX7_erase_7 : decode cX7_erase 7 = .ok (.istore_n 1, 1) := by decide +kernel
theorem dX7_erase_8 : decode cX7_erase 8 = .ok (.aload_n 0, 1) := by decide +kernel
theorem dX7_erase_9 : decode cX7_erase 9 = .ok (.getfield 10, 3) := by decide +kernel
theorem dX7_erase_12 : decode cX7_erase 12 = .ok (.invokevirtual 63, 3) := by decide +kernel
theorem dX7_erase_15 : decode cX7_erase 15 = .ok (.aload_n 0, 1) := by decide +kernel
theorem dX7_erase_16 : decode cX7_erase 16 = .ok (.iconst 0, 1) := by decide +kernel
theorem dX7_erase_17 : decode cX7_erase 17 = .ok (.putfield 39, 3) := by decide +kernel
theorem dX7_erase_20 : decode cX7_erase 20 = .ok (.iload_n 1, 1) := by decide +kernel
theorem dX7_erase_21 : decode cX7_erase 21 = .ok (.ireturn, 1) := by decide +kernel
theorem dX7_write_0 : decode cX7_write 0 = .ok (.aload_n 0, 1) := by decide +kernel
theorem dX7_write_1 : decode cX7_write 1 = .ok (.getfield 10, 3) := by decide +kernel
theorem dX7_write_4 : decode cX7_write 4 = .ok (.invokevirtual 63, 3) := by decide +kernel
theorem dX7_write_7 : decode cX7_write 7 = .ok (.aload_n 0, 1) := by decide +kernel
theorem dX7_write_8 : decode cX7_write 8 = .ok (.getfield 21, 3) := by decide +kernel
theorem dX7_write_11 : decode cX7_write 11 = .ok (.invokevirtual 66, 3) := by decide +kernel
theorem dX7_write_14 : decode cX7_write 14 = .ok (.aload_n 0, 1) := by decide +kernel
theorem dX7_write_15 : decode cX7_write 15 = .ok (.iconst 1, 1) := by decide +kernel
theorem dX7_write_16 : decode cX7_write 16 = .ok (.putfield 39, 3) := by decide +kernel
theorem dX7_write_19 : decode cX7_write 19 = .ok (.return_, 1) := by decide +kernel
theorem dX7_put_0 : decode cX7_put 0 = .ok (.iload_n 1, 1) := by decide +kernel
theorem dX7_put_1 : decode cX7_put 1 = .ok (.iload_n 3, 1) := by decide +kernel
theorem dX7_put_2 : decode cX7_put 2 = .ok (.invokestatic 69, 3) := by decide +kernel
theorem dX7_put_5 : decode cX7_put 5 = .ok (.aload_n 0, 1) := by decide +kernel
theorem dX7_put_6 : decode cX7_put 6 = .ok (.getfield 39, 3) := by decide +kernel
theorem dX7_put_9 : decode cX7_put 9 = .ok (.iconst 1, 1) := by decide +kernel
theorem dX7_put_10 : decode cX7_put 10 = .ok (.if_icmp .eq 13, 3) := by decide +kernel
theorem dX7_put_13 : decode cX7_put 13 = .ok (.new 54, 3) := by decide +kernel
theorem dX7_put_16 : decode cX7_put 16 = .ok (.dup, 1) := by decide +kernel
theorem dX7_put_17 : decode cX7_put 17 = .ok (.ldc 73, 2) := by decide +kernel
theorem dX7_put_19 : decode cX7_put 19 = .ok (.invokespecial 58, 3) := by decide +kernel
theorem dX7_put_22 : decode cX7_put 22 = .ok (.athrow, 1) := by decide +kernel
theorem dX7_put_23 : decode cX7_put 23 = .ok (.aload_n 0, 1) := by decide +kernel
theorem dX7_put_24 : decode cX7_put 24 = .ok (.getfield 10, 3) := by decide +kernel
theorem dX7_put_27 : decode cX7_put 27 = .ok (.invokevirtual 50, 3) := by decide +kernel
theorem dX7_put_30 : decode cX7_put 30 = .ok (.sipush 560, 3) := by decide +kernel
theorem dX7_put_33 : decode cX7_put 33 = .ok (.if_icmp .le 13, 3) := by decide +kernel
theorem dX7_put_36 : decode cX7_put 36 = .ok (.new 54, 3) := by decide +kernel
theorem dX7_put_39 : decode cX7_put 39 = .ok (.dup, 1) := by decide +kernel
theorem dX7_put_40 : decode cX7_put 40 = .ok (.ldc 75, 2) := by decide +kernel
theorem dX7_put_42 : decode cX7_put 42 = .ok (.invokespecial 58, 3) := by decide +kernel
theorem dX7_put_45 : decode cX7_put 45 = .ok (.athrow, 1) := by decide +kernel
theorem dX7_put_46 : decode cX7_put 46 = .ok (.iload_n 3, 1) := by decide +kernel
theorem dX7_put_47 : decode cX7_put 47 = .ok (.iconst 1, 1) := by decide +kernel
theorem dX7_put_48 : decode cX7_put 48 = .ok (.isub, 1) := by decide +kernel
theorem dX7_put_49 : decode cX7_put 49 = .ok (.istore 4, 2) := by decide +kernel
theorem dX7_put_51 : decode cX7_put 51 = .ok (.iload 4, 2) := by decide +kernel
theorem dX7_put_53 : decode cX7_put 53 = .ok (.ifCond .lt 23, 3) := by decide +kernel
theorem dX7_put_56 : decode cX7_put 56 = .ok (.aload_n 0, 1) := by decide +kernel
theorem dX7_put_57 : decode cX7_put 57 = .ok (.getfield 21, 3) := by decide +kernel
theorem dX7_put_60 : decode cX7_put 60 = .ok (.iload_n 1, 1) := by decide +kernel
theorem dX7_put_61 : decode cX7_put 61 = .ok (.iload_n 2, 1) := by decide +kernel
theorem dX7_put_62 : decode cX7_put 62 = .ok (.iload 4, 2) := by decide +kernel
theorem dX7_put_64 : decode cX7_put 64 = .ok (.iushr, 1) := by decide +kernel
theorem dX7_put_65 : decode cX7_put 65 = .ok (.iconst 1, 1) := by decide +kernel
theorem dX7_put_66 : decode cX7_put 66 = .ok (.iand, 1) := by decide +kernel
theorem dX7_put_67 : decode cX7_put 67 = .ok (.invokevirtual 77, 3) := by decide +kernel
theorem dX7_put_70 : decode cX7_put 70 = .ok (.iinc 4 (-1), 3) := by decide +kernel
theorem dX7_put_73 : decode cX7_put 73 = .ok (.goto (-22), 3) := by decide +kernel
theorem dX7_put_76 : decode cX7_put 76 = .ok (.aload_n 0, 1) := by decide +kernel
theorem dX7_put_77 : decode cX7_put 77 = .ok (.getfield 10, 3) := by decide +kernel
theorem dX7_put_80 : decode cX7_put 80 = .ok (.invokevirtual 50, 3) := by decide +kernel
theorem dX7_put_83 : decode cX7_put 83 = .ok (.ireturn, 1) := by decide +kernel
theorem dX7_end_0 : decode cX7_end 0 = .ok (.aload_n 0, 1) := by decide +kernel
theorem dX7_end_1 : decode cX7_end 1 = .ok (.getfield 39, 3) := by decide +kernel
theorem dX7_end_4 : decode cX7_end 4 = .ok (.iconst 1, 1) := by decide +kernel
theorem dX7_end_5 : decode cX7_end 5 = .ok (.if_icmp .eq 13, 3) := by decide +kernel
theorem dX7_end_8 : decode cX7_end 8 = .ok (.new 54, 3) := by decide +kernel
theorem dX7_end_11 : decode cX7_end 11 = .ok (.dup, 1) := by decide +kernel
theorem dX7_end_12 : decode cX7_end 12 = .ok (.ldc 73, 2) := by decide +kernel
theorem dX7_end_14 : decode cX7_end 14 = .ok (.invokespecial 58, 3) := by decide +kernel
theorem dX7_end_17 : decode cX7_end 17 = .ok (.athrow, 1) := by decide +kernel
theorem dX7_end_18 : decode cX7_end 18 = .ok (.aload_n 0, 1) := by decide +kernel
theorem dX7_end_19 : decode cX7_end 19 = .ok (.getfield 21, 3) := by decide +kernel
theorem dX7_end_22 : decode cX7_end 22 = .ok (.invokevirtual 80, 3) := by decide +kernel
theorem dX7_end_25 : decode cX7_end 25 = .ok (.aload_n 0, 1) := by decide +kernel
theorem dX7_end_26 : decode cX7_end 26 = .ok (.iconst 0, 1) := by decide +kernel
theorem dX7_end_27 : decode cX7_end 27 = .ok (.putfield 39, 3) := by decide +kernel
theorem dX7_end_30 : decode cX7_end 30 = .ok (.aload_n 0, 1) := by decide +kernel
theorem dX7_end_31 : decode cX7_end 31 = .ok (.getfield 10, 3) := by decide +kernel
theorem dX7_end_34 : decode cX7_end 34 = .ok (.invokevirtual 50, 3) := by decide +kernel
theorem dX7_end_37 : decode cX7_end 37 = .ok (.ireturn, 1) := by decide +kernel
theorem dX7_read_0 : decode cX7_read 0 = .ok (.aload_n 0, 1) := by decide +kernel
theorem dX7_read_1 : decode cX7_read 1 = .ok (.getfield 28, 3) := by decide +kernel
theorem dX7_read_4 : decode cX7_read 4 = .ok (.invokevirtual 83, 3) := by decide +kernel
theorem dX7_read_7 : decode cX7_read 7 = .ok (.aload_n 0, 1) := by decide +kernel
theorem dX7_read_8 : decode cX7_read 8 = .ok (.iconst 2, 1) := by decide +kernel
theorem dX7_read_9 : decode cX7_read 9 = .ok (.putfield 39, 3) := by decide +kernel
theorem dX7_read_12 : decode cX7_read 12 = .ok (.return_, 1) := by decide +kernel
theorem dX7_get_0 : decode cX7_get 0 = .ok (.iload_n 1, 1) := by decide +kernel
theorem dX7_get_1 : decode cX7_get 1 = .ok (.iload_n 2, 1) := by decide +kernel
theorem dX7_get_2 : decode cX7_get 2 = .ok (.invokestatic 69, 3) := by decide +kernel
theorem dX7_get_5 : decode cX7_get 5 = .ok (.aload_n 0, 1) := by decide +kernel
theorem dX7_get_6 : decode cX7_get 6 = .ok (.getfield 39, 3) := by decide +kernel
theorem dX7_get_9 : decode cX7_get 9 = .ok (.iconst 2, 1) := by decide +kernel
theorem dX7_get_10 : decode cX7_get 10 = .ok (.if_icmp .eq 13, 3) := by decide +kernel
theorem dX7_get_13 : decode cX7_get 13 = .ok (.new 54, 3) := by decide +kernel
theorem dX7_get_16 : decode cX7_get 16 = .ok (.dup, 1) := by decide +kernel
theorem dX7_get_17 : decode cX7_get 17 = .ok (.ldc 84, 2) := by decide +kernel
theorem dX7_get_19 : decode cX7_get 19 = .ok (.invokespecial 58, 3) := by decide +kernel
theorem dX7_get_22 : decode cX7_get 22 = .ok (.athrow, 1) := by decide +kernel
theorem dX7_get_23 : decode cX7_get 23 = .ok (.aload_n 0, 1) := by decide +kernel
theorem dX7_get_24 : decode cX7_get 24 = .ok (.getfield 28, 3) := by decide +kernel
theorem dX7_get_27 : decode cX7_get 27 = .ok (.iload_n 1, 1) := by decide +kernel
theorem dX7_get_28 : decode cX7_get 28 = .ok (.iload_n 2, 1) := by decide +kernel
theorem dX7_get_29 : decode cX7_get 29 = .ok (.invokevirtual 86, 3) := by decide +kernel
theorem dX7_get_32 : decode cX7_get 32 = .ok (.ireturn, 1) := by decide +kernel
theorem dX7_decode_0 : decode cX7_decode 0 = .ok (.aload_n 0, 1) := by decide +kernel
theorem dX7_decode_1 : decode cX7_decode 1 = .ok (.getfield 28, 3) := by decide +kernel
theorem dX7_decode_4 : decode cX7_decode 4 = .ok (.invokevirtual 83, 3) := by decide +kernel
theorem dX7_decode_7 : decode cX7_decode 7 = .ok (.aload_n 0, 1) := by decide +kernel
theorem dX7_decode_8 : decode cX7_decode 8 = .ok (.getfield 35, 3) := by decide +kernel
theorem dX7_decode_11 : decode cX7_decode 11 = .ok (.aload_n 0, 1) := by decide +kernel
theorem dX7_decode_12 : decode cX7_decode 12 = .ok (.getfield 28, 3) := by decide +kernel
theorem dX7_decode_15 : decode cX7_decode 15 = .ok (.invokevirtual 90, 3) := by decide +kernel
theorem dX7_decode_18 : decode cX7_decode 18 = .ok (.aload_n 0, 1) := by decide +kernel
theorem dX7_decode_19 : decode cX7_decode 19 = .ok (.iconst 0, 1) := by decide +kernel
theorem dX7_decode_20 : decode cX7_decode 20 = .ok (.putfield 39, 3) := by decide +kernel
theorem dX7_decode_23 : decode cX7_decode 23 = .ok (.aload_n 0, 1) := by decide +kernel
theorem dX7_decode_24 : decode cX7_decode 24 = .ok (.getfield 35, 3) := by decide +kernel
theorem dX7_decode_27 : decode cX7_decode 27 = .ok (.invokevirtual 94, 3) := by decide +kernel
theorem dX7_decode_30 : decode cX7_decode 30 = .ok (.ireturn, 1) := by decide +kernel
theorem dX7_sample_0 : decode cX7_sample 0 = .ok (.aload_n 0, 1) := by decide +kernel
theorem dX7_sample_1 : decode cX7_sample 1 = .ok (.getfield 35, 3) := by decide +kernel
theorem dX7_sample_4 : decode cX7_sample 4 = .ok (.iload_n 1, 1) := by decide +kernel
theorem dX7_sample_5 : decode cX7_sample 5 = .ok (.iload_n 2, 1) := by decide +kernel
theorem dX7_sample_6 : decode cX7_sample 6 = .ok (.invokevirtual 97, 3) := by decide +kernel
theorem dX7_sample_9 : decode cX7_sample 9 = .ok (.ireturn, 1) := by decide +kernel
theorem dX7_block_0 : decode cX7_block 0 = .ok (.iload_n 2, 1) := by decide +kernel
theorem dX7_block_1 : decode cX7_block 1 = .ok (.ifCond .lt 9, 3) := by decide +kernel
theorem dX7_block_4 : decode cX7_block 4 = .ok (.iload_n 2, 1) := by decide +kernel
theorem dX7_block_5 : decode cX7_block 5 = .ok (.bipush 18, 2) := by decide +kernel
theorem dX7_block_7 : decode cX7_block 7 = .ok (.if_icmp .lt 13, 3) := by decide +kernel
theorem dX7_block_10 : decode cX7_block 10 = .ok (.new 43, 3) := by decide +kernel
theorem dX7_block_13 : decode cX7_block 13 = .ok (.dup, 1) := by decide +kernel
theorem dX7_block_14 : decode cX7_block 14 = .ok (.ldc 100, 2) := by decide +kernel
theorem dX7_block_16 : decode cX7_block 16 = .ok (.invokespecial 47, 3) := by decide +kernel
theorem dX7_block_19 : decode cX7_block 19 = .ok (.athrow, 1) := by decide +kernel
theorem dX7_block_20 : decode cX7_block 20 = .ok (.iload_n 2, 1) := by decide +kernel
theorem dX7_block_21 : decode cX7_block 21 = .ok (.iconst 2, 1) := by decide +kernel
theorem dX7_block_22 : decode cX7_block 22 = .ok (.if_icmp .lt 15, 3) := by decide +kernel
theorem dX7_block_25 : decode cX7_block 25 = .ok (.aload_n 0, 1) := by decide +kernel
theorem dX7_block_26 : decode cX7_block 26 = .ok (.getfield 35, 3) := by decide +kernel
theorem dX7_block_29 : decode cX7_block 29 = .ok (.iload_n 1, 1) := by decide +kernel
theorem dX7_block_30 : decode cX7_block 30 = .ok (.iload_n 2, 1) := by decide +kernel
theorem dX7_block_31 : decode cX7_block 31 = .ok (.iconst 2, 1) := by decide +kernel
theorem dX7_block_32 : decode cX7_block 32 = .ok (.isub, 1) := by decide +kernel
theorem dX7_block_33 : decode cX7_block 33 = .ok (.invokevirtual 102, 3) := by decide +kernel
theorem dX7_block_36 : decode cX7_block 36 = .ok (.ireturn, 1) := by decide +kernel
theorem dX7_block_37 : decode cX7_block 37 = .ok (.iload_n 2, 1) := by decide +kernel
theorem dX7_block_38 : decode cX7_block 38 = .ok (.ifCond .ne 14, 3) := by decide +kernel
theorem dX7_block_41 : decode cX7_block 41 = .ok (.aload_n 0, 1) := by decide +kernel
theorem dX7_block_42 : decode cX7_block 42 = .ok (.getfield 35, 3) := by decide +kernel
theorem dX7_block_45 : decode cX7_block 45 = .ok (.iload_n 1, 1) := by decide +kernel
theorem dX7_block_46 : decode cX7_block 46 = .ok (.invokevirtual 105, 3) := by decide +kernel
theorem dX7_block_49 : decode cX7_block 49 = .ok (.goto 11, 3) := by decide +kernel
theorem dX7_block_52 : decode cX7_block 52 = .ok (.aload_n 0, 1) := by decide +kernel
end
section
theorem dX7_block_53 : decode cX7_block 53 = .ok (.getfield 35, 3) := by decide +kernel
theorem dX7_block_56 : decode cX7_block 56 = .ok (.iload_n 1, 1) := by decide +kernel
theorem dX7_block_57 : decode cX7_block 57 = .ok (.invokevirtual 109, 3) := by decide +kernel
theorem dX7_block_60 : decode cX7_block 60 = .ok (.ireturn, 1) := by decide +kernel
theorem dX7_count_0 : decode cX7_count 0 = .ok (.iload_n 1, 1) := by decide +kernel
theorem dX7_count_1 : decode cX7_count 1 = .ok (.tableswitch 99 0 6 #[43, 51, 59, 67, 75, 83, 91], 43) := by decide +kernel
theorem dX7_count_44 : decode cX7_count 44 = .ok (.aload_n 0, 1) := by decide +kernel
theorem dX7_count_45 : decode cX7_count 45 = .ok (.getfield 35, 3) := by decide +kernel
theorem dX7_count_48 : decode cX7_count 48 = .ok (.getfield 112, 3) := by decide +kernel
theorem dX7_count_51 : decode cX7_count 51 = .ok (.ireturn, 1) := by decide +kernel
theorem dX7_count_52 : decode cX7_count 52 = .ok (.aload_n 0, 1) := by decide +kernel
theorem dX7_count_53 : decode cX7_count 53 = .ok (.getfield 35, 3) := by decide +kernel
theorem dX7_count_56 : decode cX7_count 56 = .ok (.getfield 115, 3) := by decide +kernel
theorem dX7_count_59 : decode cX7_count 59 = .ok (.ireturn, 1) := by decide +kernel
theorem dX7_count_60 : decode cX7_count 60 = .ok (.aload_n 0, 1) := by decide +kernel
theorem dX7_count_61 : decode cX7_count 61 = .ok (.getfield 35, 3) := by decide +kernel
theorem dX7_count_64 : decode cX7_count 64 = .ok (.getfield 118, 3) := by decide +kernel
theorem dX7_count_67 : decode cX7_count 67 = .ok (.ireturn, 1) := by decide +kernel
theorem dX7_count_68 : decode cX7_count 68 = .ok (.aload_n 0, 1) := by decide +kernel
theorem dX7_count_69 : decode cX7_count 69 = .ok (.getfield 35, 3) := by decide +kernel
theorem dX7_count_72 : decode cX7_count 72 = .ok (.getfield 121, 3) := by decide +kernel
theorem dX7_count_75 : decode cX7_count 75 = .ok (.ireturn, 1) := by decide +kernel
theorem dX7_count_76 : decode cX7_count 76 = .ok (.aload_n 0, 1) := by decide +kernel
theorem dX7_count_77 : decode cX7_count 77 = .ok (.getfield 35, 3) := by decide +kernel
theorem dX7_count_80 : decode cX7_count 80 = .ok (.getfield 124, 3) := by decide +kernel
theorem dX7_count_83 : decode cX7_count 83 = .ok (.ireturn, 1) := by decide +kernel
theorem dX7_count_84 : decode cX7_count 84 = .ok (.aload_n 0, 1) := by decide +kernel
theorem dX7_count_85 : decode cX7_count 85 = .ok (.getfield 35, 3) := by decide +kernel
theorem dX7_count_88 : decode cX7_count 88 = .ok (.getfield 127, 3) := by decide +kernel
theorem dX7_count_91 : decode cX7_count 91 = .ok (.ireturn, 1) := by decide +kernel
theorem dX7_count_92 : decode cX7_count 92 = .ok (.aload_n 0, 1) := by decide +kernel
theorem dX7_count_93 : decode cX7_count 93 = .ok (.getfield 35, 3) := by decide +kernel
theorem dX7_count_96 : decode cX7_count 96 = .ok (.getfield 130, 3) := by decide +kernel
theorem dX7_count_99 : decode cX7_count 99 = .ok (.ireturn, 1) := by decide +kernel
theorem dX7_count_100 : decode cX7_count 100 = .ok (.new 43, 3) := by decide +kernel
theorem dX7_count_103 : decode cX7_count 103 = .ok (.dup, 1) := by decide +kernel
theorem dX7_count_104 : decode cX7_count 104 = .ok (.ldc 133, 2) := by decide +kernel
theorem dX7_count_106 : decode cX7_count 106 = .ok (.invokespecial 47, 3) := by decide +kernel
theorem dX7_count_109 : decode cX7_count 109 = .ok (.athrow, 1) := by decide +kernel
theorem dX7_octet_0 : decode cX7_octet 0 = .ok (.iload_n 1, 1) := by decide +kernel
theorem dX7_octet_1 : decode cX7_octet 1 = .ok (.ifCond .lt 25, 3) := by decide +kernel
theorem dX7_octet_4 : decode cX7_octet 4 = .ok (.iload_n 1, 1) := by decide +kernel
theorem dX7_octet_5 : decode cX7_octet 5 = .ok (.aload_n 0, 1) := by decide +kernel
theorem dX7_octet_6 : decode cX7_octet 6 = .ok (.getfield 10, 3) := by decide +kernel
theorem dX7_octet_9 : decode cX7_octet 9 = .ok (.invokevirtual 50, 3) := by decide +kernel
theorem dX7_octet_12 : decode cX7_octet 12 = .ok (.if_icmp .ge 14, 3) := by decide +kernel
theorem dX7_octet_15 : decode cX7_octet 15 = .ok (.aload_n 0, 1) := by decide +kernel
theorem dX7_octet_16 : decode cX7_octet 16 = .ok (.getfield 10, 3) := by decide +kernel
theorem dX7_octet_19 : decode cX7_octet 19 = .ok (.iload_n 1, 1) := by decide +kernel
theorem dX7_octet_20 : decode cX7_octet 20 = .ok (.invokevirtual 135, 3) := by decide +kernel
theorem dX7_octet_23 : decode cX7_octet 23 = .ok (.goto 4, 3) := by decide +kernel
theorem dX7_octet_26 : decode cX7_octet 26 = .ok (.iconst (-1), 1) := by decide +kernel
theorem dX7_octet_27 : decode cX7_octet 27 = .ok (.ireturn, 1) := by decide +kernel
theorem dX7_checkBits_0 : decode cX7_checkBits 0 = .ok (.iload_n 0, 1) := by decide +kernel
theorem dX7_checkBits_1 : decode cX7_checkBits 1 = .ok (.iconst 1, 1) := by decide +kernel
theorem dX7_checkBits_2 : decode cX7_checkBits 2 = .ok (.if_icmp .lt 10, 3) := by decide +kernel
theorem dX7_checkBits_5 : decode cX7_checkBits 5 = .ok (.iload_n 0, 1) := by decide +kernel
theorem dX7_checkBits_6 : decode cX7_checkBits 6 = .ok (.sipush 255, 3) := by decide +kernel
theorem dX7_checkBits_9 : decode cX7_checkBits 9 = .ok (.if_icmp .le 13, 3) := by decide +kernel
theorem dX7_checkBits_12 : decode cX7_checkBits 12 = .ok (.new 43, 3) := by decide +kernel
theorem dX7_checkBits_15 : decode cX7_checkBits 15 = .ok (.dup, 1) := by decide +kernel
theorem dX7_checkBits_16 : decode cX7_checkBits 16 = .ok (.ldc 138, 2) := by decide +kernel
theorem dX7_checkBits_18 : decode cX7_checkBits 18 = .ok (.invokespecial 47, 3) := by decide +kernel
theorem dX7_checkBits_21 : decode cX7_checkBits 21 = .ok (.athrow, 1) := by decide +kernel
theorem dX7_checkBits_22 : decode cX7_checkBits 22 = .ok (.iload_n 1, 1) := by decide +kernel
theorem dX7_checkBits_23 : decode cX7_checkBits 23 = .ok (.ifCond .lt 9, 3) := by decide +kernel
theorem dX7_checkBits_26 : decode cX7_checkBits 26 = .ok (.iload_n 1, 1) := by decide +kernel
theorem dX7_checkBits_27 : decode cX7_checkBits 27 = .ok (.bipush 32, 2) := by decide +kernel
theorem dX7_checkBits_29 : decode cX7_checkBits 29 = .ok (.if_icmp .le 13, 3) := by decide +kernel
theorem dX7_checkBits_32 : decode cX7_checkBits 32 = .ok (.new 43, 3) := by decide +kernel
theorem dX7_checkBits_35 : decode cX7_checkBits 35 = .ok (.dup, 1) := by decide +kernel
theorem dX7_checkBits_36 : decode cX7_checkBits 36 = .ok (.ldc 140, 2) := by decide +kernel
theorem dX7_checkBits_38 : decode cX7_checkBits 38 = .ok (.invokespecial 47, 3) := by decide +kernel
theorem dX7_checkBits_41 : decode cX7_checkBits 41 = .ok (.athrow, 1) := by decide +kernel
theorem dX7_checkBits_42 : decode cX7_checkBits 42 = .ok (.return_, 1) := by decide +kernel
theorem dX7_splitOf_0 : decode cX7_splitOf 0 = .ok (.iconst 1, 1) := by decide +kernel
theorem dX7_splitOf_1 : decode cX7_splitOf 1 = .ok (.iload_n 0, 1) := by decide +kernel
theorem dX7_splitOf_2 : decode cX7_splitOf 2 = .ok (.iconst 1, 1) := by decide +kernel
theorem dX7_splitOf_3 : decode cX7_splitOf 3 = .ok (.isub, 1) := by decide +kernel
theorem dX7_splitOf_4 : decode cX7_splitOf 4 = .ok (.iload_n 1, 1) := by decide +kernel
theorem dX7_splitOf_5 : decode cX7_splitOf 5 = .ok (.imul, 1) := by decide +kernel
theorem dX7_splitOf_6 : decode cX7_splitOf 6 = .ok (.bipush 8, 2) := by decide +kernel
theorem dX7_splitOf_8 : decode cX7_splitOf 8 = .ok (.ishr, 1) := by decide +kernel
theorem dX7_splitOf_9 : decode cX7_splitOf 9 = .ok (.iadd, 1) := by decide +kernel
theorem dX7_splitOf_10 : decode cX7_splitOf 10 = .ok (.ireturn, 1) := by decide +kernel
theorem dX7_within_0 : decode cX7_within 0 = .ok (.lload_n 0, 1) := by decide +kernel
theorem dX7_within_1 : decode cX7_within 1 = .ok (.iload_n 2, 1) := by decide +kernel
theorem dX7_within_2 : decode cX7_within 2 = .ok (.i2l, 1) := by decide +kernel
theorem dX7_within_3 : decode cX7_within 3 = .ok (.lcmp, 1) := by decide +kernel
theorem dX7_within_4 : decode cX7_within 4 = .ok (.ifCond .ge 7, 3) := by decide +kernel
theorem dX7_within_7 : decode cX7_within 7 = .ok (.iload_n 2, 1) := by decide +kernel
theorem dX7_within_8 : decode cX7_within 8 = .ok (.goto 16, 3) := by decide +kernel
theorem dX7_within_11 : decode cX7_within 11 = .ok (.lload_n 0, 1) := by decide +kernel
theorem dX7_within_12 : decode cX7_within 12 = .ok (.iload_n 3, 1) := by decide +kernel
theorem dX7_within_13 : decode cX7_within 13 = .ok (.i2l, 1) := by decide +kernel
theorem dX7_within_14 : decode cX7_within 14 = .ok (.lcmp, 1) := by decide +kernel
theorem dX7_within_15 : decode cX7_within 15 = .ok (.ifCond .le 7, 3) := by decide +kernel
theorem dX7_within_18 : decode cX7_within 18 = .ok (.iload_n 3, 1) := by decide +kernel
theorem dX7_within_19 : decode cX7_within 19 = .ok (.goto 5, 3) := by decide +kernel
theorem dX7_within_22 : decode cX7_within 22 = .ok (.lload_n 0, 1) := by decide +kernel
theorem dX7_within_23 : decode cX7_within 23 = .ok (.l2i, 1) := by decide +kernel
theorem dX7_within_24 : decode cX7_within 24 = .ok (.ireturn, 1) := by decide +kernel
theorem dX8_init_0 : decode cX8_init 0 = .ok (.aload_n 0, 1) := by decide +kernel
theorem dX8_init_1 : decode cX8_init 1 = .ok (.invokespecial 1, 3) := by decide +kernel
theorem dX8_init_4 : decode cX8_init 4 = .ok (.aload_n 0, 1) := by decide +kernel
theorem dX8_init_5 : decode cX8_init 5 = .ok (.sipush 600, 3) := by decide +kernel
theorem dX8_init_8 : decode cX8_init 8 = .ok (.newarray .int, 2) := by decide +kernel
theorem dX8_init_10 : decode cX8_init 10 = .ok (.putfield 7, 3) := by decide +kernel
theorem dX8_init_13 : decode cX8_init 13 = .ok (.aload_n 0, 1) := by decide +kernel
theorem dX8_init_14 : decode cX8_init 14 = .ok (.sipush 264, 3) := by decide +kernel
theorem dX8_init_17 : decode cX8_init 17 = .ok (.newarray .int, 2) := by decide +kernel
theorem dX8_init_19 : decode cX8_init 19 = .ok (.putfield 13, 3) := by decide +kernel
theorem dX8_init_22 : decode cX8_init 22 = .ok (.aload_n 0, 1) := by decide +kernel
theorem dX8_init_23 : decode cX8_init 23 = .ok (.bipush 16, 2) := by decide +kernel
theorem dX8_init_25 : decode cX8_init 25 = .ok (.newarray .int, 2) := by decide +kernel
theorem dX8_init_27 : decode cX8_init 27 = .ok (.putfield 16, 3) := by decide +kernel
theorem dX8_init_30 : decode cX8_init 30 = .ok (.aload_n 0, 1) := by decide +kernel
theorem dX8_init_31 : decode cX8_init 31 = .ok (.bipush 16, 2) := by decide +kernel
theorem dX8_init_33 : decode cX8_init 33 = .ok (.newarray .int, 2) := by decide +kernel
theorem dX8_init_35 : decode cX8_init 35 = .ok (.putfield 19, 3) := by decide +kernel
theorem dX8_init_38 : decode cX8_init 38 = .ok (.aload_n 0, 1) := by decide +kernel
theorem dX8_init_39 : decode cX8_init 39 = .ok (.sipush 256, 3) := by decide +kernel
theorem dX8_init_42 : decode cX8_init 42 = .ok (.newarray .int, 2) := by decide +kernel
theorem dX8_init_44 : decode cX8_init 44 = .ok (.putfield 22, 3) := by decide +kernel
theorem dX8_init_47 : decode cX8_init 47 = .ok (.aload_n 0, 1) := by decide +kernel
theorem dX8_init_48 : decode cX8_init 48 = .ok (.sipush 256, 3) := by decide +kernel
theorem dX8_init_51 : decode cX8_init 51 = .ok (.newarray .int, 2) := by decide +kernel
theorem dX8_init_53 : decode cX8_init 53 = .ok (.putfield 25, 3) := by decide +kernel
theorem dX8_init_56 : decode cX8_init 56 = .ok (.aload_n 0, 1) := by decide +kernel
theorem dX8_init_57 : decode cX8_init 57 = .ok (.bipush 16, 2) := by decide +kernel
theorem dX8_init_59 : decode cX8_init 59 = .ok (.newarray .long, 2) := by decide +kernel
theorem dX8_init_61 : decode cX8_init 61 = .ok (.putfield 28, 3) := by decide +kernel
theorem dX8_init_64 : decode cX8_init 64 = .ok (.return_, 1) := by decide +kernel
theorem dX8_refused_0 : decode cX8_refused 0 = .ok (.aload_n 0, 1) := by decide +kernel
theorem dX8_refused_1 : decode cX8_refused 1 = .ok (.iload_n 1, 1) := by decide +kernel
theorem dX8_refused_2 : decode cX8_refused 2 = .ok (.putfield 32, 3) := by decide +kernel
theorem dX8_refused_5 : decode cX8_refused 5 = .ok (.iload_n 1, 1) := by decide +kernel
theorem dX8_refused_6 : decode cX8_refused 6 = .ok (.ifCond .le 7, 3) := by decide +kernel
theorem dX8_refused_9 : decode cX8_refused 9 = .ok (.iconst 1, 1) := by decide +kernel
theorem dX8_refused_10 : decode cX8_refused 10 = .ok (.goto 4, 3) := by decide +kernel
theorem dX8_refused_13 : decode cX8_refused 13 = .ok (.iconst 0, 1) := by decide +kernel
theorem dX8_refused_14 : decode cX8_refused 14 = .ok (.ireturn, 1) := by decide +kernel
theorem dX8_isIn_0 : decode cX8_isIn 0 = .ok (.iload_n 0, 1) := by decide +kernel
theorem dX8_isIn_1 : decode cX8_isIn 1 = .ok (.iload_n 1, 1) := by decide +kernel
theorem dX8_isIn_2 : decode cX8_isIn 2 = .ok (.if_icmp .lt 12, 3) := by decide +kernel
theorem dX8_isIn_5 : decode cX8_isIn 5 = .ok (.iload_n 0, 1) := by decide +kernel
theorem dX8_isIn_6 : decode cX8_isIn 6 = .ok (.iload_n 2, 1) := by decide +kernel
theorem dX8_isIn_7 : decode cX8_isIn 7 = .ok (.if_icmp .gt 7, 3) := by decide +kernel
theorem dX8_isIn_10 : decode cX8_isIn 10 = .ok (.iconst 1, 1) := by decide +kernel
theorem dX8_isIn_11 : decode cX8_isIn 11 = .ok (.goto 4, 3) := by decide +kernel
theorem dX8_isIn_14 : decode cX8_isIn 14 = .ok (.iconst 0, 1) := by decide +kernel
theorem dX8_isIn_15 : decode cX8_isIn 15 = .ok (.ireturn, 1) := by decide +kernel
theorem dX8_feed_0 : decode cX8_feed 0 = .ok (.aload_n 0, 1) := by decide +kernel
theorem dX8_feed_1 : decode cX8_feed 1 = .ok (.iload_n 1, 1) := by decide +kernel
theorem dX8_feed_2 : decode cX8_feed 2 = .ok (.iconst 0, 1) := by decide +kernel
theorem dX8_feed_3 : decode cX8_feed 3 = .ok (.bipush 16, 2) := by decide +kernel
theorem dX8_feed_5 : decode cX8_feed 5 = .ok (.invokestatic 36, 3) := by decide +kernel
theorem dX8_feed_8 : decode cX8_feed 8 = .ok (.ifCond .ne 7, 3) := by decide +kernel
theorem dX8_feed_11 : decode cX8_feed 11 = .ok (.iconst 1, 1) := by decide +kernel
theorem dX8_feed_12 : decode cX8_feed 12 = .ok (.goto 20, 3) := by decide +kernel
theorem dX8_feed_15 : decode cX8_feed 15 = .ok (.aload_n 0, 1) := by decide +kernel
theorem dX8_feed_16 : decode cX8_feed 16 = .ok (.getfield 40, 3) := by decide +kernel
theorem dX8_feed_19 : decode cX8_feed 19 = .ok (.iload_n 1, 1) := by decide +kernel
theorem dX8_feed_20 : decode cX8_feed 20 = .ok (.iadd, 1) := by decide +kernel
theorem dX8_feed_21 : decode cX8_feed 21 = .ok (.sipush 600, 3) := by decide +kernel
theorem dX8_feed_24 : decode cX8_feed 24 = .ok (.if_icmp .le 7, 3) := by decide +kernel
theorem dX8_feed_27 : decode cX8_feed 27 = .ok (.iconst 2, 1) := by decide +kernel
theorem dX8_feed_28 : decode cX8_feed 28 = .ok (.goto 4, 3) := by decide +kernel
theorem dX8_feed_31 : decode cX8_feed 31 = .ok (.iconst 0, 1) := by decide +kernel
theorem dX8_feed_32 : decode cX8_feed 32 = .ok (.invokevirtual 43, 3) := by decide +kernel
theorem dX8_feed_35 : decode cX8_feed 35 = .ok (.ifCond .eq 5, 3) := by decide +kernel
theorem dX8_feed_38 : decode cX8_feed 38 = .ok (.iconst 0, 1) := by decide +kernel
theorem dX8_feed_39 : decode cX8_feed 39 = .ok (.ireturn, 1) := by decide +kernel
theorem dX8_feed_40 : decode cX8_feed 40 = .ok (.aload_n 0, 1) := by decide +kernel
theorem dX8_feed_41 : decode cX8_feed 41 = .ok (.iconst 0, 1) := by decide +kernel
theorem dX8_feed_42 : decode cX8_feed 42 = .ok (.putfield 47, 3) := by decide +kernel
theorem dX8_feed_45 : decode cX8_feed 45 = .ok (.iconst 0, 1) := by decide +kernel
theorem dX8_feed_46 : decode cX8_feed 46 = .ok (.istore 6, 2) := by decide +kernel
theorem dX8_feed_48 : decode cX8_feed 48 = .ok (.iload 6, 2) := by decide +kernel
theorem dX8_feed_50 : decode cX8_feed 50 = .ok (.iload_n 1, 1) := by decide +kernel
theorem dX8_feed_51 : decode cX8_feed 51 = .ok (.if_icmp .ge 82, 3) := by decide +kernel
theorem dX8_feed_54 : decode cX8_feed 54 = .ok (.iload 6, 2) := by decide +kernel
theorem dX8_feed_56 : decode cX8_feed 56 = .ok (.iconst 4, 1) := by decide +kernel
theorem dX8_feed_57 : decode cX8_feed 57 = .ok (.if_icmp .ge 7, 3) := by decide +kernel
theorem dX8_feed_60 : decode cX8_feed 60 = .ok (.iload_n 2, 1) := by decide +kernel
theorem dX8_feed_61 : decode cX8_feed 61 = .ok (.goto 28, 3) := by decide +kernel
theorem dX8_feed_64 : decode cX8_feed 64 = .ok (.iload 6, 2) := by decide +kernel
theorem dX8_feed_66 : decode cX8_feed 66 = .ok (.bipush 8, 2) := by decide +kernel
theorem dX8_feed_68 : decode cX8_feed 68 = .ok (.if_icmp .ge 7, 3) := by decide +kernel
theorem dX8_feed_71 : decode cX8_feed 71 = .ok (.iload_n 3, 1) := by decide +kernel
theorem dX8_feed_72 : decode cX8_feed 72 = .ok (.goto 17, 3) := by decide +kernel
theorem dX8_feed_75 : decode cX8_feed 75 = .ok (.iload 6, 2) := by decide +kernel
theorem dX8_feed_77 : decode cX8_feed 77 = .ok (.bipush 12, 2) := by decide +kernel
theorem dX8_feed_79 : decode cX8_feed 79 = .ok (.if_icmp .ge 8, 3) := by decide +kernel
theorem dX8_feed_82 : decode cX8_feed 82 = .ok (.iload 4, 2) := by decide +kernel
theorem dX8_feed_84 : decode cX8_feed 84 = .ok (.goto 5, 3) := by decide +kernel
theorem dX8_feed_87 : decode cX8_feed 87 = .ok (.iload 5, 2) := by decide +kernel
theorem dX8_feed_89 : decode cX8_feed 89 = .ok (.istore 7, 2) := by decide +kernel
theorem dX8_feed_91 : decode cX8_feed 91 = .ok (.aload_n 0, 1) := by decide +kernel
theorem dX8_feed_92 : decode cX8_feed 92 = .ok (.getfield 7, 3) := by decide +kernel
theorem dX8_feed_95 : decode cX8_feed 95 = .ok (.aload_n 0, 1) := by decide +kernel
theorem dX8_feed_96 : decode cX8_feed 96 = .ok (.getfield 40, 3) := by decide +kernel
theorem dX8_feed_99 : decode cX8_feed 99 = .ok (.iload 7, 2) := by decide +kernel
theorem dX8_feed_101 : decode cX8_feed 101 = .ok (.bipush 24, 2) := by decide +kernel
theorem dX8_feed_103 : decode cX8_feed 103 = .ok (.bipush 8, 2) := by decide +kernel
theorem dX8_feed_105 : decode cX8_feed 105 = .ok (.iload 6, 2) := by decide +kernel
theorem dX8_feed_107 : decode cX8_feed 107 = .ok (.iconst 4, 1) := by decide +kernel
theorem dX8_feed_108 : decode cX8_feed 108 = .ok (.irem, 1) := by decide +kernel
theorem dX8_feed_109 : decode cX8_feed 109 = .ok (.imul, 1) := by decide +kernel
theorem dX8_feed_110 : decode cX8_feed 110 = .ok (.isub, 1) := by decide +kernel
theorem dX8_feed_111 : decode cX8_feed 111 = .ok (.ishr, 1) := by decide +kernel
theorem dX8_feed_112 : decode cX8_feed 112 = .ok (.sipush 255, 3) := by decide +kernel
theorem dX8_feed_115 : decode cX8_feed 115 = .ok (.iand, 1) := by decide +kernel
theorem dX8_feed_116 : decode cX8_feed 116 = .ok (.iastore, 1) := by decide +kernel
theorem dX8_feed_117 : decode cX8_feed 117 = .ok (.aload_n 0, 1) := by decide +kernel
theorem dX8_feed_118 : decode cX8_feed 118 = .ok (.dup, 1) := by decide +kernel
theorem dX8_feed_119 : decode cX8_feed 119 = .ok (.getfield 40, 3) := by decide +kernel
theorem dX8_feed_122 : decode cX8_feed 122 = .ok (.iconst 1, 1) := by decide +kernel
theorem dX8_feed_123 : decode cX8_feed 123 = .ok (.iadd, 1) := by decide +kernel
theorem dX8_feed_124 : decode cX8_feed 124 = .ok (.putfield 40, 3) := by decide +kernel
theorem dX8_feed_127 : decode cX8_feed 127 = .ok (.iinc 6 1, 3) := by decide +kernel
theorem dX8_feed_130 : decode cX8_feed 130 = .ok (.goto (-82), 3) := by decide +kernel
theorem dX8_feed_133 : decode cX8_feed 133 = .ok (.aload_n 0, 1) := by decide +kernel
theorem dX8_feed_134 : decode cX8_feed 134 = .ok (.getfield 40, 3) := by decide +kernel
theorem dX8_feed_137 : decode cX8_feed 137 = .ok (.ireturn, 1) := by decide +kernel
theorem dX8_erase_0 : decode cX8_erase 0 = .ok (.aload_n 0, 1) := by decide +kernel
theorem dX8_erase_1 : decode cX8_erase 1 = .ok (.iconst 0, 1) := by decide +kernel
theorem dX8_erase_2 : decode cX8_erase 2 = .ok (.putfield 32, 3) := by decide +kernel
theorem dX8_erase_5 : decode cX8_erase 5 = .ok (.aload_n 0, 1) := by decide +kernel
theorem dX8_erase_6 : decode cX8_erase 6 = .ok (.getfield 40, 3) := by decide +kernel
theorem dX8_erase_9 : decode cX8_erase 9 = .ok (.istore_n 1, 1) := by decide +kernel
theorem dX8_erase_10 : decode cX8_erase 10 = .ok (.aload_n 0, 1) := by decide +kernel
theorem dX8_erase_11 : decode cX8_erase 11 = .ok (.iconst 0, 1) := by decide +kernel
theorem dX8_erase_12 : decode cX8_erase 12 = .ok (.putfield 40, 3) := by decide +kernel
theorem dX8_erase_15 : decode cX8_erase 15 = .ok (.aload_n 0, 1) := by decide +kernel
theorem dX8_erase_16 : decode cX8_erase 16 = .ok (.iconst 0, 1) := by decide +kernel
theorem dX8_erase_17 : decode cX8_erase 17 = .ok (.putfield 47, 3) := by decide +kernel
theorem dX8_erase_20 : decode cX8_erase 20 = .ok (.iload_n 1, 1) := by decide +kernel
theorem dX8_erase_21 : decode cX8_erase 21 = .ok (.ireturn, 1) := by decide +kernel
theorem dX8_octet_0 : decode cX8_octet 0 = .ok (.aload_n 0, 1) := by decide +kernel
theorem dX8_octet_1 : decode cX8_octet 1 = .ok (.iconst 0, 1) := by decide +kernel
theorem dX8_octet_2 : decode cX8_octet 2 = .ok (.putfield 32, 3) := by decide +kernel
theorem dX8_octet_5 : decode cX8_octet 5 = .ok (.iload_n 1, 1) := by decide +kernel
theorem dX8_octet_6 : decode cX8_octet 6 = .ok (.iconst 0, 1) := by decide +kernel
theorem dX8_octet_7 : decode cX8_octet 7 = .ok (.aload_n 0, 1) := by decide +kernel
theorem dX8_octet_8 : decode cX8_octet 8 = .ok (.getfield 40, 3) := by decide +kernel
theorem dX8_octet_11 : decode cX8_octet 11 = .ok (.iconst 1, 1) := by decide +kernel
theorem dX8_octet_12 : decode cX8_octet 12 = .ok (.isub, 1) := by decide +kernel
theorem dX8_octet_13 : decode cX8_octet 13 = .ok (.invokestatic 36, 3) := by decide +kernel
theorem dX8_octet_16 : decode cX8_octet 16 = .ok (.ifCond .eq 12, 3) := by decide +kernel
theorem dX8_octet_19 : decode cX8_octet 19 = .ok (.aload_n 0, 1) := by decide +kernel
theorem dX8_octet_20 : decode cX8_octet 20 = .ok (.getfield 7, 3) := by decide +kernel
theorem dX8_octet_23 : decode cX8_octet 23 = .ok (.iload_n 1, 1) := by decide +kernel
theorem dX8_octet_24 : decode cX8_octet 24 = .ok (.iaload, 1) := by decide +kernel
theorem dX8_octet_25 : decode cX8_octet 25 = .ok (.goto 4, 3) := by decide +kernel
theorem dX8_octet_28 : decode cX8_octet 28 = .ok (.iconst (-1), 1) := by decide +kernel
theorem dX8_octet_29 : decode cX8_octet 29 = .ok (.ireturn, 1) := by decide +kernel
theorem dX8_write_0 : decode cX8_write 0 = .ok (.aload_n 0, 1) := by decide +kernel
theorem dX8_write_1 : decode cX8_write 1 = .ok (.iconst 0, 1) := by decide +kernel
theorem dX8_write_2 : decode cX8_write 2 = .ok (.putfield 32, 3) := by decide +kernel
theorem dX8_write_5 : decode cX8_write 5 = .ok (.aload_n 0, 1) := by decide +kernel
theorem dX8_write_6 : decode cX8_write 6 = .ok (.iconst 0, 1) := by decide +kernel
theorem dX8_write_7 : decode cX8_write 7 = .ok (.putfield 40, 3) := by decide +kernel
theorem dX8_write_10 : decode cX8_write 10 = .ok (.aload_n 0, 1) := by decide +kernel
theorem dX8_write_11 : decode cX8_write 11 = .ok (.iconst 1, 1) := by decide +kernel
theorem dX8_write_12 : decode cX8_write 12 = .ok (.putfield 47, 3) := by decide +kernel
theorem dX8_write_15 : decode cX8_write 15 = .ok (.aload_n 0, 1) := by decide +kernel
theorem dX8_write_16 : decode cX8_write 16 = .ok (.lconst 0, 1) := by decide +kernel
theorem dX8_write_17 : decode cX8_write 17 = .ok (.putfield 50, 3) := by decide +kernel
theorem dX8_write_20 : decode cX8_write 20 = .ok (.aload_n 0, 1) := by decide +kernel
theorem dX8_write_21 : decode cX8_write 21 = .ok (.sipush 255, 3) := by decide +kernel
theorem dX8_write_24 : decode cX8_write 24 = .ok (.putfield 54, 3) := by decide +kernel
theorem dX8_write_27 : decode cX8_write 27 = .ok (.aload_n 0, 1) := by decide +kernel
theorem dX8_write_28 : decode cX8_write 28 = .ok (.bipush 24, 2) := by decide +kernel
theorem dX8_write_30 : decode cX8_write 30 = .ok (.putfield 57, 3) := by decide +kernel
theorem dX8_write_33 : decode cX8_write 33 = .ok (.return_, 1) := by decide +kernel
theorem dX8_carry_0 : decode cX8_carry 0 = .ok (.aload_n 0, 1) := by decide +kernel
theorem dX8_carry_1 : decode cX8_carry 1 = .ok (.getfield 40, 3) := by decide +kernel
theorem dX8_carry_4 : decode cX8_carry 4 = .ok (.iconst 1, 1) := by decide +kernel
theorem dX8_carry_5 : decode cX8_carry 5 = .ok (.isub, 1) := by decide +kernel
theorem dX8_carry_6 : decode cX8_carry 6 = .ok (.istore_n 1, 1) := by decide +kernel
theorem dX8_carry_7 : decode cX8_carry 7 = .ok (.iload_n 1, 1) := by decide +kernel
theorem dX8_carry_8 : decode cX8_carry 8 = .ok (.ifCond .lt 28, 3) := by decide +kernel
theorem dX8_carry_11 : decode cX8_carry 11 = .ok (.aload_n 0, 1) := by decide +kernel
theorem dX8_carry_12 : decode cX8_carry 12 = .ok (.getfield 7, 3) := by decide +kernel
theorem dX8_carry_15 : decode cX8_carry 15 = .ok (.iload_n 1, 1) := by decide +kernel
theorem dX8_carry_16 : decode cX8_carry 16 = .ok (.iaload, 1) := by decide +kernel
theorem dX8_carry_17 : decode cX8_carry 17 = .ok (.sipush 255, 3) := by decide +kernel
theorem dX8_carry_20 : decode cX8_carry 20 = .ok (.if_icmp .ne 16, 3) := by decide +kernel
theorem dX8_carry_23 : decode cX8_carry 23 = .ok (.aload_n 0, 1) := by decide +kernel
theorem dX8_carry_24 : decode cX8_carry 24 = .ok (.getfield 7, 3) := by decide +kernel
theorem dX8_carry_27 : decode cX8_carry 27 = .ok (.iload_n 1, 1) := by decide +kernel
theorem dX8_carry_28 : decode cX8_carry 28 = .ok (.iconst 0, 1) := by decide +kernel
theorem dX8_carry_29 : decode cX8_carry 29 = .ok (.iastore, 1) := by decide +kernel
theorem dX8_carry_30 : decode cX8_carry 30 = .ok (.iinc 1 (-1), 3) := by decide +kernel
theorem dX8_carry_33 : decode cX8_carry 33 = .ok (.goto (-26), 3) := by decide +kernel
theorem dX8_carry_36 : decode cX8_carry 36 = .ok (.iload_n 1, 1) := by decide +kernel
theorem dX8_carry_37 : decode cX8_carry 37 = .ok (.ifCond .lt 13, 3) := by decide +kernel
theorem dX8_carry_40 : decode cX8_carry 40 = .ok (.aload_n 0, 1) := by decide +kernel
theorem dX8_carry_41 : decode cX8_carry 41 = .ok (.getfield 7, 3) := by decide +kernel
theorem dX8_carry_44 : decode cX8_carry 44 = .ok (.iload_n 1, 1) := by decide +kernel
theorem dX8_carry_45 : decode cX8_carry 45 = .ok (.dup2, 1) := by decide +kernel
theorem dX8_carry_46 : decode cX8_carry 46 = .ok (.iaload, 1) := by decide +kernel
theorem dX8_carry_47 : decode cX8_carry 47 = .ok (.iconst 1, 1) := by decide +kernel
theorem dX8_carry_48 : decode cX8_carry 48 = .ok (.iadd, 1) := by decide +kernel
theorem dX8_carry_49 : decode cX8_carry 49 = .ok (.iastore, 1) := by decide +kernel
theorem dX8_carry_50 : decode cX8_carry 50 = .ok (.return_, 1) := by decide +kernel
theorem dX8_append_0 : decode cX8_append 0 = .ok (.aload_n 0, 1) := by decide +kernel
theorem dX8_append_1 : decode cX8_append 1 = .ok (.getfield 7, 3) := by decide +kernel
theorem dX8_append_4 : decode cX8_append 4 = .ok (.aload_n 0, 1) := by decide +kernel
theorem dX8_append_5 : decode cX8_append 5 = .ok (.getfield 40, 3) := by decide +kernel
theorem dX8_append_8 : decode cX8_append 8 = .ok (.lload_n 1, 1) := by decide +kernel
theorem dX8_append_9 : decode cX8_append 9 = .ok (.bipush 24, 2) := by decide +kernel
theorem dX8_append_11 : decode cX8_append 11 = .ok (.lshr, 1) := by decide +kernel
theorem dX8_append_12 : decode cX8_append 12 = .ok (.ldc2_w 60, 3) := by decide +kernel
theorem dX8_append_15 : decode cX8_append 15 = .ok (.land, 1) := by decide +kernel
theorem dX8_append_16 : decode cX8_append 16 = .ok (.l2i, 1) := by decide +kernel
theorem dX8_append_17 : decode cX8_append 17 = .ok (.iastore, 1) := by decide +kernel
theorem dX8_append_18 : decode cX8_append 18 = .ok (.aload_n 0, 1) := by decide +kernel
theorem dX8_append_19 : decode cX8_append 19 = .ok (.dup, 1) := by decide +kernel
theorem dX8_append_20 : decode cX8_append 20 = .ok (.getfield 40, 3) := by decide +kernel
theorem dX8_append_23 : decode cX8_append 23 = .ok (.iconst 1, 1) := by decide +kernel
theorem dX8_append_24 : decode cX8_append 24 = .ok (.iadd, 1) := by decide +kernel
theorem dX8_append_25 : decode cX8_append 25 = .ok (.putfield 40, 3) := by decide +kernel
theorem dX8_append_28 : decode cX8_append 28 = .ok (.return_, 1) := by decide +kernel
theorem dX8_writeBit_0 : decode cX8_writeBit 0 = .ok (.iconst 1, 1) := by decide +kernel
theorem dX8_writeBit_1 : decode cX8_writeBit 1 = .ok (.aload_n 0, 1) := by decide +kernel
theorem dX8_writeBit_2 : decode cX8_writeBit 2 = .ok (.getfield 54, 3) := by decide +kernel
theorem dX8_writeBit_5 : decode cX8_writeBit 5 = .ok (.iconst 1, 1) := by decide +kernel
theorem dX8_writeBit_6 : decode cX8_writeBit 6 = .ok (.isub, 1) := by decide +kernel
theorem dX8_writeBit_7 : decode cX8_writeBit 7 = .ok (.iload_n 1, 1) := by decide +kernel
theorem dX8_writeBit_8 : decode cX8_writeBit 8 = .ok (.imul, 1) := by decide +kernel
theorem dX8_writeBit_9 : decode cX8_writeBit 9 = .ok (.sipush 256, 3) := by decide +kernel
theorem dX8_writeBit_12 : decode cX8_writeBit 12 = .ok (.idiv, 1) := by decide +kernel
theorem dX8_writeBit_13 : decode cX8_writeBit 13 = .ok (.iadd, 1) := by decide +kernel
theorem dX8_writeBit_14 : decode cX8_writeBit 14 = .ok (.istore_n 3, 1) := by decide +kernel
theorem dX8_writeBit_15 : decode cX8_writeBit 15 = .ok (.iload_n 2, 1) := by decide +kernel
theorem dX8_writeBit_16 : decode cX8_writeBit 16 = .ok (.ifCond .ne 11, 3) := by decide +kernel
theorem dX8_writeBit_19 : decode cX8_writeBit 19 = .ok (.aload_n 0, 1) := by decide +kernel
theorem dX8_writeBit_20 : decode cX8_writeBit 20 = .ok (.iload_n 3, 1) := by decide +kernel
theorem dX8_writeBit_21 : decode cX8_writeBit 21 = .ok (.putfield 54, 3) := by decide +kernel
theorem dX8_writeBit_24 : decode cX8_writeBit 24 = .ok (.goto 28, 3) := by decide +kernel
theorem dX8_writeBit_27 : decode cX8_writeBit 27 = .ok (.aload_n 0, 1) := by decide +kernel
theorem dX8_writeBit_28 : decode cX8_writeBit 28 = .ok (.aload_n 0, 1) := by decide +kernel
theorem dX8_writeBit_29 : decode cX8_writeBit 29 = .ok (.getfield 50, 3) := by decide +kernel
theorem dX8_writeBit_32 : decode cX8_writeBit 32 = .ok (.iload_n 3, 1) := by decide +kernel
theorem dX8_writeBit_33 : decode cX8_writeBit 33 = .ok (.i2l, 1) := by decide +kernel
theorem dX8_writeBit_34 : decode cX8_writeBit 34 = .ok (.ladd, 1) := by decide +kernel
theorem dX8_writeBit_35 : decode cX8_writeBit 35 = .ok (.ldc2_w 62, 3) := by decide +kernel
theorem dX8_writeBit_38 : decode cX8_writeBit 38 = .ok (.land, 1) := by decide +kernel
theorem dX8_writeBit_39 : decode cX8_writeBit 39 = .ok (.putfield 50, 3) := by decide +kernel
theorem dX8_writeBit_42 : decode cX8_writeBit 42 = .ok (.aload_n 0, 1) := by decide +kernel
theorem dX8_writeBit_43 : decode cX8_writeBit 43 = .ok (.aload_n 0, 1) := by decide +kernel
theorem dX8_writeBit_44 : decode cX8_writeBit 44 = .ok (.getfield 54, 3) := by decide +kernel
theorem dX8_writeBit_47 : decode cX8_writeBit 47 = .ok (.iload_n 3, 1) := by decide +kernel
theorem dX8_writeBit_48 : decode cX8_writeBit 48 = .ok (.isub, 1) := by decide +kernel
theorem dX8_writeBit_49 : decode cX8_writeBit 49 = .ok (.putfield 54, 3) := by decide +kernel
theorem dX8_writeBit_52 : decode cX8_writeBit 52 = .ok (.aload_n 0, 1) := by decide +kernel
theorem dX8_writeBit_53 : decode cX8_writeBit 53 = .ok (.getfield 54, 3) := by decide +kernel
theorem dX8_writeBit_56 : decode cX8_writeBit 56 = .ok (.sipush 128, 3) := by decide +kernel
theorem dX8_writeBit_59 : decode cX8_writeBit 59 = .ok (.if_icmp .ge 90, 3) := by decide +kernel
theorem dX8_writeBit_62 : decode cX8_writeBit 62 = .ok (.aload_n 0, 1) := by decide +kernel
theorem dX8_writeBit_63 : decode cX8_writeBit 63 = .ok (.iconst 2, 1) := by decide +kernel
theorem dX8_writeBit_64 : decode cX8_writeBit 64 = .ok (.aload_n 0, 1) := by decide +kernel
theorem dX8_writeBit_65 : decode cX8_writeBit 65 = .ok (.getfield 54, 3) := by decide +kernel
theorem dX8_writeBit_68 : decode cX8_writeBit 68 = .ok (.imul, 1) := by decide +kernel
theorem dX8_writeBit_69 : decode cX8_writeBit 69 = .ok (.putfield 54, 3) := by decide +kernel
theorem dX8_writeBit_72 : decode cX8_writeBit 72 = .ok (.aload_n 0, 1) := by decide +kernel
theorem dX8_writeBit_73 : decode cX8_writeBit 73 = .ok (.getfield 50, 3) := by decide +kernel
theorem dX8_writeBit_76 : decode cX8_writeBit 76 = .ok (.ldc2_w 64, 3) := by decide +kernel
theorem dX8_writeBit_79 : decode cX8_writeBit 79 = .ok (.lcmp, 1) := by decide +kernel
theorem dX8_writeBit_80 : decode cX8_writeBit 80 = .ok (.ifCond .lt 7, 3) := by decide +kernel
theorem dX8_writeBit_83 : decode cX8_writeBit 83 = .ok (.aload_n 0, 1) := by decide +kernel
theorem dX8_writeBit_84 : decode cX8_writeBit 84 = .ok (.invokevirtual 66, 3) := by decide +kernel
theorem dX8_writeBit_87 : decode cX8_writeBit 87 = .ok (.aload_n 0, 1) := by decide +kernel
theorem dX8_writeBit_88 : decode cX8_writeBit 88 = .ok (.ldc2_w 69, 3) := by decide +kernel
theorem dX8_writeBit_91 : decode cX8_writeBit 91 = .ok (.aload_n 0, 1) := by decide +kernel
theorem dX8_writeBit_92 : decode cX8_writeBit 92 = .ok (.getfield 50, 3) := by decide +kernel
theorem dX8_writeBit_95 : decode cX8_writeBit 95 = .ok (.lmul, 1) := by decide +kernel
theorem dX8_writeBit_96 : decode cX8_writeBit 96 = .ok (.ldc2_w 62, 3) := by decide +kernel
theorem dX8_writeBit_99 : decode cX8_writeBit 99 = .ok (.land, 1) := by decide +kernel
theorem dX8_writeBit_100 : decode cX8_writeBit 100 = .ok (.putfield 50, 3) := by decide +kernel
theorem dX8_writeBit_103 : decode cX8_writeBit 103 = .ok (.aload_n 0, 1) := by decide +kernel
theorem dX8_writeBit_104 : decode cX8_writeBit 104 = .ok (.dup, 1) := by decide +kernel
theorem dX8_writeBit_105 : decode cX8_writeBit 105 = .ok (.getfield 57, 3) := by decide +kernel
theorem dX8_writeBit_108 : decode cX8_writeBit 108 = .ok (.iconst 1, 1) := by decide +kernel
theorem dX8_writeBit_109 : decode cX8_writeBit 109 = .ok (.isub, 1) := by decide +kernel
theorem dX8_writeBit_110 : decode cX8_writeBit 110 = .ok (.putfield 57, 3) := by decide +kernel
theorem dX8_writeBit_113 : decode cX8_writeBit 113 = .ok (.aload_n 0, 1) := by decide +kernel
theorem dX8_writeBit_114 : decode cX8_writeBit 114 = .ok (.getfield 57, 3) := by decide +kernel
theorem dX8_writeBit_117 : decode cX8_writeBit 117 = .ok (.ifCond .ne (-65), 3) := by decide +kernel
theorem dX8_writeBit_120 : decode cX8_writeBit 120 = .ok (.aload_n 0, 1) := by decide +kernel
theorem dX8_writeBit_121 : decode cX8_writeBit 121 = .ok (.aload_n 0, 1) := by decide +kernel
theorem dX8_writeBit_122 : decode cX8_writeBit 122 = .ok (.getfield 50, 3) := by decide +kernel
theorem dX8_writeBit_125 : decode cX8_writeBit 125 = .ok (.invokevirtual 71, 3) := by decide +kernel
theorem dX8_writeBit_128 : decode cX8_writeBit 128 = .ok (.aload_n 0, 1) := by decide +kernel
theorem dX8_writeBit_129 : decode cX8_writeBit 129 = .ok (.aload_n 0, 1) := by decide +kernel
theorem dX8_writeBit_130 : decode cX8_writeBit 130 = .ok (.getfield 50, 3) := by decide +kernel
theorem dX8_writeBit_133 : decode cX8_writeBit 133 = .ok (.ldc2_w 75, 3) := by decide +kernel
theorem dX8_writeBit_136 : decode cX8_writeBit 136 = .ok (.land, 1) := by decide +kernel
theorem dX8_writeBit_137 : decode cX8_writeBit 137 = .ok (.putfield 50, 3) := by decide +kernel
theorem dX8_writeBit_140 : decode cX8_writeBit 140 = .ok (.aload_n 0, 1) := by decide +kernel
theorem dX8_writeBit_141 : decode cX8_writeBit 141 = .ok (.bipush 8, 2) := by decide +kernel
theorem dX8_writeBit_143 : decode cX8_writeBit 143 = .ok (.putfield 57, 3) := by decide +kernel
theorem dX8_writeBit_146 : decode cX8_writeBit 146 = .ok (.goto (-94), 3) := by decide +kernel
theorem dX8_writeBit_149 : decode cX8_writeBit 149 = .ok (.return_, 1) := by decide +kernel
theorem dX8_put_0 : decode cX8_put 0 = .ok (.iload_n 1, 1) := by decide +kernel
theorem dX8_put_1 : decode cX8_put 1 = .ok (.iconst 1, 1) := by decide +kernel
theorem dX8_put_2 : decode cX8_put 2 = .ok (.sipush 255, 3) := by decide +kernel
theorem dX8_put_5 : decode cX8_put 5 = .ok (.invokestatic 36, 3) := by decide +kernel
theorem dX8_put_8 : decode cX8_put 8 = .ok (.ifCond .eq 17, 3) := by decide +kernel
theorem dX8_put_11 : decode cX8_put 11 = .ok (.iload_n 3, 1) := by decide +kernel
theorem dX8_put_12 : decode cX8_put 12 = .ok (.iconst 0, 1) := by decide +kernel
theorem dX8_put_13 : decode cX8_put 13 = .ok (.bipush 32, 2) := by decide +kernel
theorem dX8_put_15 : decode cX8_put 15 = .ok (.invokestatic 36, 3) := by decide +kernel
theorem dX8_put_18 : decode cX8_put 18 = .ok (.ifCond .eq 7, 3) := by decide +kernel
theorem dX8_put_21 : decode cX8_put 21 = .ok (.iconst 1, 1) := by decide +kernel
theorem dX8_put_22 : decode cX8_put 22 = .ok (.goto 4, 3) := by decide +kernel
theorem dX8_put_25 : decode cX8_put 25 = .ok (.iconst 0, 1) := by decide +kernel
theorem dX8_put_26 : decode cX8_put 26 = .ok (.istore 4, 2) := by decide +kernel
theorem dX8_put_28 : decode cX8_put 28 = .ok (.aload_n 0, 1) := by decide +kernel
theorem dX8_put_29 : decode cX8_put 29 = .ok (.iload 4, 2) := by decide +kernel
theorem dX8_put_31 : decode cX8_put 31 = .ok (.ifCond .ne 7, 3) := by decide +kernel
theorem dX8_put_34 : decode cX8_put 34 = .ok (.iconst 1, 1) := by decide +kernel
theorem dX8_put_35 : decode cX8_put 35 = .ok (.goto 26, 3) := by decide +kernel
theorem dX8_put_38 : decode cX8_put 38 = .ok (.aload_n 0, 1) := by decide +kernel
theorem dX8_put_39 : decode cX8_put 39 = .ok (.getfield 47, 3) := by decide +kernel
theorem dX8_put_42 : decode cX8_put 42 = .ok (.iconst 1, 1) := by decide +kernel
theorem dX8_put_43 : decode cX8_put 43 = .ok (.if_icmp .ne 13, 3) := by decide +kernel
theorem dX8_put_46 : decode cX8_put 46 = .ok (.aload_n 0, 1) := by decide +kernel
theorem dX8_put_47 : decode cX8_put 47 = .ok (.getfield 40, 3) := by decide +kernel
theorem dX8_put_50 : decode cX8_put 50 = .ok (.sipush 560, 3) := by decide +kernel
theorem dX8_put_53 : decode cX8_put 53 = .ok (.if_icmp .le 7, 3) := by decide +kernel
theorem dX8_put_56 : decode cX8_put 56 = .ok (.iconst 2, 1) := by decide +kernel
theorem dX8_put_57 : decode cX8_put 57 = .ok (.goto 4, 3) := by decide +kernel
theorem dX8_put_60 : decode cX8_put 60 = .ok (.iconst 0, 1) := by decide +kernel
theorem dX8_put_61 : decode cX8_put 61 = .ok (.invokevirtual 43, 3) := by decide +kernel
theorem dX8_put_64 : decode cX8_put 64 = .ok (.ifCond .eq 5, 3) := by decide +kernel
theorem dX8_put_67 : decode cX8_put 67 = .ok (.iconst 0, 1) := by decide +kernel
theorem dX8_put_68 : decode cX8_put 68 = .ok (.ireturn, 1) := by decide +kernel
theorem dX8_put_69 : decode cX8_put 69 = .ok (.iload_n 3, 1) := by decide +kernel
theorem dX8_put_70 : decode cX8_put 70 = .ok (.iconst 1, 1) := by decide +kernel
theorem dX8_put_71 : decode cX8_put 71 = .ok (.isub, 1) := by decide +kernel
theorem dX8_put_72 : decode cX8_put 72 = .ok (.istore 5, 2) := by decide +kernel
theorem dX8_put_74 : decode cX8_put 74 = .ok (.iload 5, 2) := by decide +kernel
theorem dX8_put_76 : decode cX8_put 76 = .ok (.ifCond .lt 20, 3) := by decide +kernel
theorem dX8_put_79 : decode cX8_put 79 = .ok (.aload_n 0, 1) := by decide +kernel
theorem dX8_put_80 : decode cX8_put 80 = .ok (.iload_n 1, 1) := by decide +kernel
theorem dX8_put_81 : decode cX8_put 81 = .ok (.iload_n 2, 1) := by decide +kernel
theorem dX8_put_82 : decode cX8_put 82 = .ok (.iload 5, 2) := by decide +kernel
theorem dX8_put_84 : decode cX8_put 84 = .ok (.ishr, 1) := by decide +kernel
theorem dX8_put_85 : decode cX8_put 85 = .ok (.iconst 1, 1) := by decide +kernel
theorem dX8_put_86 : decode cX8_put 86 = .ok (.iand, 1) := by decide +kernel
theorem dX8_put_87 : decode cX8_put 87 = .ok (.invokevirtual 77, 3) := by decide +kernel
theorem dX8_put_90 : decode cX8_put 90 = .ok (.iinc 5 (-1), 3) := by decide +kernel
theorem dX8_put_93 : decode cX8_put 93 = .ok (.goto (-19), 3) := by decide +kernel
theorem dX8_put_96 : decode cX8_put 96 = .ok (.aload_n 0, 1) := by decide +kernel
theorem dX8_put_97 : decode cX8_put 97 = .ok (.getfield 40, 3) := by decide +kernel
theorem dX8_put_100 : decode cX8_put 100 = .ok (.ireturn, 1) := by decide +kernel
theorem dX8_end_0 : decode cX8_end 0 = .ok (.aload_n 0, 1) := by decide +kernel
theorem dX8_end_1 : decode cX8_end 1 = .ok (.aload_n 0, 1) := by decide +kernel
theorem dX8_end_2 : decode cX8_end 2 = .ok (.getfield 47, 3) := by decide +kernel
theorem dX8_end_5 : decode cX8_end 5 = .ok (.iconst 1, 1) := by decide +kernel
theorem dX8_end_6 : decode cX8_end 6 = .ok (.if_icmp .eq 7, 3) := by decide +kernel
theorem dX8_end_9 : decode cX8_end 9 = .ok (.iconst 1, 1) := by decide +kernel
theorem dX8_end_10 : decode cX8_end 10 = .ok (.goto 4, 3) := by decide +kernel
theorem dX8_end_13 : decode cX8_end 13 = .ok (.iconst 0, 1) := by decide +kernel
theorem dX8_end_14 : decode cX8_end 14 = .ok (.invokevirtual 43, 3) := by decide +kernel
theorem dX8_end_17 : decode cX8_end 17 = .ok (.ifCond .eq 5, 3) := by decide +kernel
theorem dX8_end_20 : decode cX8_end 20 = .ok (.iconst 0, 1) := by decide +kernel
theorem dX8_end_21 : decode cX8_end 21 = .ok (.ireturn, 1) := by decide +kernel
theorem dX8_end_22 : decode cX8_end 22 = .ok (.aload_n 0, 1) := by decide +kernel
theorem dX8_end_23 : decode cX8_end 23 = .ok (.iconst 0, 1) := by decide +kernel
theorem dX8_end_24 : decode cX8_end 24 = .ok (.putfield 47, 3) := by decide +kernel
theorem dX8_end_27 : decode cX8_end 27 = .ok (.aload_n 0, 1) := by decide +kernel
theorem dX8_end_28 : decode cX8_end 28 = .ok (.getfield 50, 3) := by decide +kernel
theorem dX8_end_31 : decode cX8_end 31 = .ok (.bipush 32, 2) := by decide +kernel
theorem dX8_end_33 : decode cX8_end 33 = .ok (.aload_n 0, 1) := by decide +kernel
theorem dX8_end_34 : decode cX8_end 34 = .ok (.getfield 57, 3) := by decide +kernel
theorem dX8_end_37 : decode cX8_end 37 = .ok (.isub, 1) := by decide +kernel
theorem dX8_end_38 : decode cX8_end 38 = .ok (.lshr, 1) := by decide +kernel
theorem dX8_end_39 : decode cX8_end 39 = .ok (.lconst 1, 1) := by decide +kernel
theorem dX8_end_40 : decode cX8_end 40 = .ok (.land, 1) := by decide +kernel
theorem dX8_end_41 : decode cX8_end 41 = .ok (.lconst 1, 1) := by decide +kernel
theorem dX8_end_42 : decode cX8_end 42 = .ok (.lcmp, 1) := by decide +kernel
theorem dX8_end_43 : decode cX8_end 43 = .ok (.ifCond .ne 7, 3) := by decide +kernel
theorem dX8_end_46 : decode cX8_end 46 = .ok (.aload_n 0, 1) := by decide +kernel
theorem dX8_end_47 : decode cX8_end 47 = .ok (.invokevirtual 66, 3) := by decide +kernel
theorem dX8_end_50 : decode cX8_end 50 = .ok (.aload_n 0, 1) := by decide +kernel
theorem dX8_end_51 : decode cX8_end 51 = .ok (.getfield 50, 3) := by decide +kernel
theorem dX8_end_54 : decode cX8_end 54 = .ok (.aload_n 0, 1) := by decide +kernel
theorem dX8_end_55 : decode cX8_end 55 = .ok (.getfield 57, 3) := by decide +kernel
theorem dX8_end_58 : decode cX8_end 58 = .ok (.bipush 8, 2) := by decide +kernel
theorem dX8_end_60 : decode cX8_end 60 = .ok (.irem, 1) := by decide +kernel
theorem dX8_end_61 : decode cX8_end 61 = .ok (.lshl, 1) := by decide +kernel
theorem dX8_end_62 : decode cX8_end 62 = .ok (.ldc2_w 62, 3) := by decide +kernel
theorem dX8_end_65 : decode cX8_end 65 = .ok (.land, 1) := by decide +kernel
theorem dX8_end_66 : decode cX8_end 66 = .ok (.lstore_n 1, 1) := by decide +kernel
theorem dX8_end_67 : decode cX8_end 67 = .ok (.iconst 0, 1) := by decide +kernel
theorem dX8_end_68 : decode cX8_end 68 = .ok (.istore_n 3, 1) := by decide +kernel
theorem dX8_end_69 : decode cX8_end 69 = .ok (.iload_n 3, 1) := by decide +kernel
theorem dX8_end_70 : decode cX8_end 70 = .ok (.aload_n 0, 1) := by decide +kernel
theorem dX8_end_71 : decode cX8_end 71 = .ok (.getfield 57, 3) := by decide +kernel
theorem dX8_end_74 : decode cX8_end 74 = .ok (.bipush 8, 2) := by decide +kernel
theorem dX8_end_76 : decode cX8_end 76 = .ok (.idiv, 1) := by decide +kernel
theorem dX8_end_77 : decode cX8_end 77 = .ok (.if_icmp .ge 18, 3) := by decide +kernel
theorem dX8_end_80 : decode cX8_end 80 = .ok (.lload_n 1, 1) := by decide +kernel
theorem dX8_end_81 : decode cX8_end 81 = .ok (.bipush 8, 2) := by decide +kernel
theorem dX8_end_83 : decode cX8_end 83 = .ok (.lshl, 1) := by decide +kernel
theorem dX8_end_84 : decode cX8_end 84 = .ok (.ldc2_w 62, 3) := by decide +kernel
theorem dX8_end_87 : decode cX8_end 87 = .ok (.land, 1) := by decide +kernel
theorem dX8_end_88 : decode cX8_end 88 = .ok (.lstore_n 1, 1) := by decide +kernel
theorem dX8_end_89 : decode cX8_end 89 = .ok (.iinc 3 1, 3) := by decide +kernel
theorem dX8_end_92 : decode cX8_end 92 = .ok (.goto (-23), 3) := by decide +kernel
theorem dX8_end_95 : decode cX8_end 95 = .ok (.iconst 0, 1) := by decide +kernel
theorem dX8_end_96 : decode cX8_end 96 = .ok (.istore_n 3, 1) := by decide +kernel
theorem dX8_end_97 : decode cX8_end 97 = .ok (.iload_n 3, 1) := by decide +kernel
theorem dX8_end_98 : decode cX8_end 98 = .ok (.iconst 4, 1) := by decide +kernel
theorem dX8_end_99 : decode cX8_end 99 = .ok (.if_icmp .ge 23, 3) := by decide +kernel
theorem dX8_end_102 : decode cX8_end 102 = .ok (.aload_n 0, 1) := by decide +kernel
theorem dX8_end_103 : decode cX8_end 103 = .ok (.lload_n 1, 1) := by decide +kernel
theorem dX8_end_104 : decode cX8_end 104 = .ok (.invokevirtual 71, 3) := by decide +kernel
theorem dX8_end_107 : decode cX8_end 107 = .ok (.lload_n 1, 1) := by decide +kernel
theorem dX8_end_108 : decode cX8_end 108 = .ok (.bipush 8, 2) := by decide +kernel
theorem dX8_end_110 : decode cX8_end 110 = .ok (.lshl, 1) := by decide +kernel
theorem dX8_end_111 : decode cX8_end 111 = .ok (.ldc2_w 62, 3) := by decide +kernel
theorem dX8_end_114 : decode cX8_end 114 = .ok (.land, 1) := by decide +kernel
theorem dX8_end_115 : decode cX8_end 115 = .ok (.lstore_n 1, 1) := by decide +kernel
theorem dX8_end_116 : decode cX8_end 116 = .ok (.iinc 3 1, 3) := by decide +kernel
theorem dX8_end_119 : decode cX8_end 119 = .ok (.goto (-22), 3) := by decide +kernel
theorem dX8_end_122 : decode cX8_end 122 = .ok (.aload_n 0, 1) := by decide +kernel
theorem dX8_end_123 : decode cX8_end 123 = .ok (.getfield 40, 3) := by decide +kernel
theorem dX8_end_126 : decode cX8_end 126 = .ok (.ireturn, 1) := by decide +kernel
theorem dX8_byteAt_0 : decode cX8_byteAt 0 = .ok (.iload_n 1, 1) := by decide +kernel
theorem dX8_byteAt_1 : decode cX8_byteAt 1 = .ok (.aload_n 0, 1) := by decide +kernel
theorem dX8_byteAt_2 : decode cX8_byteAt 2 = .ok (.getfield 40, 3) := by decide +kernel
theorem dX8_byteAt_5 : decode cX8_byteAt 5 = .ok (.if_icmp .ge 12, 3) := by decide +kernel
theorem dX8_byteAt_8 : decode cX8_byteAt 8 = .ok (.aload_n 0, 1) := by decide +kernel
theorem dX8_byteAt_9 : decode cX8_byteAt 9 = .ok (.getfield 7, 3) := by decide +kernel
theorem dX8_byteAt_12 : decode cX8_byteAt 12 = .ok (.iload_n 1, 1) := by decide +kernel
theorem dX8_byteAt_13 : decode cX8_byteAt 13 = .ok (.iaload, 1) := by decide +kernel
theorem dX8_byteAt_14 : decode cX8_byteAt 14 = .ok (.goto 4, 3) := by decide +kernel
theorem dX8_byteAt_17 : decode cX8_byteAt 17 = .ok (.iconst 0, 1) := by decide +kernel
theorem dX8_byteAt_18 : decode cX8_byteAt 18 = .ok (.ireturn, 1) := by decide +kernel
theorem dX8_open_0 : decode cX8_open 0 = .ok (.aload_n 0, 1) := by decide +kernel
theorem dX8_open_1 : decode cX8_open 1 = .ok (.sipush 256, 3) := by decide +kernel
theorem dX8_open_4 : decode cX8_open 4 = .ok (.aload_n 0, 1) := by decide +kernel
theorem dX8_open_5 : decode cX8_open 5 = .ok (.iconst 0, 1) := by decide +kernel
theorem dX8_open_6 : decode cX8_open 6 = .ok (.invokevirtual 81, 3) := by decide +kernel
theorem dX8_open_9 : decode cX8_open 9 = .ok (.imul, 1) := by decide +kernel
theorem dX8_open_10 : decode cX8_open 10 = .ok (.aload_n 0, 1) := by decide +kernel
theorem dX8_open_11 : decode cX8_open 11 = .ok (.iconst 1, 1) := by decide +kernel
theorem dX8_open_12 : decode cX8_open 12 = .ok (.invokevirtual 81, 3) := by decide +kernel
theorem dX8_open_15 : decode cX8_open 15 = .ok (.iadd, 1) := by decide +kernel
theorem dX8_open_16 : decode cX8_open 16 = .ok (.putfield 85, 3) := by decide +kernel
theorem dX8_open_19 : decode cX8_open 19 = .ok (.aload_n 0, 1) := by decide +kernel
theorem dX8_open_20 : decode cX8_open 20 = .ok (.iconst 2, 1) := by decide +kernel
theorem dX8_open_21 : decode cX8_open 21 = .ok (.putfield 88, 3) := by decide +kernel
theorem dX8_open_24 : decode cX8_open 24 = .ok (.aload_n 0, 1) := by decide +kernel
theorem dX8_open_25 : decode cX8_open 25 = .ok (.sipush 255, 3) := by decide +kernel
theorem dX8_open_28 : decode cX8_open 28 = .ok (.putfield 54, 3) := by decide +kernel
theorem dX8_open_31 : decode cX8_open 31 = .ok (.aload_n 0, 1) := by decide +kernel
theorem dX8_open_32 : decode cX8_open 32 = .ok (.iconst 0, 1) := by decide +kernel
theorem dX8_open_33 : decode cX8_open 33 = .ok (.putfield 57, 3) := by decide +kernel
theorem dX8_open_36 : decode cX8_open 36 = .ok (.return_, 1) := by decide +kernel
theorem dX8_read_0 : decode cX8_read 0 = .ok (.aload_n 0, 1) := by decide +kernel
theorem dX8_read_1 : decode cX8_read 1 = .ok (.iconst 0, 1) := by decide +kernel
theorem dX8_read_2 : decode cX8_read 2 = .ok (.putfield 32, 3) := by decide +kernel
theorem dX8_read_5 : decode cX8_read 5 = .ok (.aload_n 0, 1) := by decide +kernel
theorem dX8_read_6 : decode cX8_read 6 = .ok (.iconst 2, 1) := by decide +kernel
theorem dX8_read_7 : decode cX8_read 7 = .ok (.putfield 47, 3) := by decide +kernel
theorem dX8_read_10 : decode cX8_read 10 = .ok (.aload_n 0, 1) := by decide +kernel
theorem dX8_read_11 : decode cX8_read 11 = .ok (.invokevirtual 91, 3) := by decide +kernel
theorem dX8_read_14 : decode cX8_read 14 = .ok (.return_, 1) := by decide +kernel
theorem dX8_readBit_0 : decode cX8_readBit 0 = .ok (.iconst 1, 1) := by decide +kernel
theorem dX8_readBit_1 : decode cX8_readBit 1 = .ok (.aload_n 0, 1) := by decide +kernel
theorem dX8_readBit_2 : decode cX8_readBit 2 = .ok (.getfield 54, 3) := by decide +kernel
theorem dX8_readBit_5 : decode cX8_readBit 5 = .ok (.iconst 1, 1) := by decide +kernel
theorem dX8_readBit_6 : decode cX8_readBit 6 = .ok (.isub, 1) := by decide +kernel
theorem dX8_readBit_7 : decode cX8_readBit 7 = .ok (.iload_n 1, 1) := by decide +kernel
theorem dX8_readBit_8 : decode cX8_readBit 8 = .ok (.imul, 1) := by decide +kernel
theorem dX8_readBit_9 : decode cX8_readBit 9 = .ok (.sipush 256, 3) := by decide +kernel
theorem dX8_readBit_12 : decode cX8_readBit 12 = .ok (.idiv, 1) := by decide +kernel
theorem dX8_readBit_13 : decode cX8_readBit 13 = .ok (.iadd, 1) := by decide +kernel
theorem dX8_readBit_14 : decode cX8_readBit 14 = .ok (.istore_n 2, 1) := by decide +kernel
theorem dX8_readBit_15 : decode cX8_readBit 15 = .ok (.aload_n 0, 1) := by decide +kernel
theorem dX8_readBit_16 : decode cX8_readBit 16 = .ok (.getfield 85, 3) := by decide +kernel
theorem dX8_readBit_19 : decode cX8_readBit 19 = .ok (.sipush 256, 3) := by decide +kernel
theorem dX8_readBit_22 : decode cX8_readBit 22 = .ok (.iload_n 2, 1) := by decide +kernel
theorem dX8_readBit_23 : decode cX8_readBit 23 = .ok (.imul, 1) := by decide +kernel
theorem dX8_readBit_24 : decode cX8_readBit 24 = .ok (.if_icmp .lt 7, 3) := by decide +kernel
theorem dX8_readBit_27 : decode cX8_readBit 27 = .ok (.iconst 1, 1) := by decide +kernel
theorem dX8_readBit_28 : decode cX8_readBit 28 = .ok (.goto 4, 3) := by decide +kernel
theorem dX8_readBit_31 : decode cX8_readBit 31 = .ok (.iconst 0, 1) := by decide +kernel
theorem dX8_readBit_32 : decode cX8_readBit 32 = .ok (.istore_n 3, 1) := by decide +kernel
theorem dX8_readBit_33 : decode cX8_readBit 33 = .ok (.iload_n 3, 1) := by decide +kernel
theorem dX8_readBit_34 : decode cX8_readBit 34 = .ok (.iconst 1, 1) := by decide +kernel
theorem dX8_readBit_35 : decode cX8_readBit 35 = .ok (.if_icmp .ne 30, 3) := by decide +kernel
theorem dX8_readBit_38 : decode cX8_readBit 38 = .ok (.aload_n 0, 1) := by decide +kernel
theorem dX8_readBit_39 : decode cX8_readBit 39 = .ok (.aload_n 0, 1) := by decide +kernel
theorem dX8_readBit_40 : decode cX8_readBit 40 = .ok (.getfield 54, 3) := by decide +kernel
theorem dX8_readBit_43 : decode cX8_readBit 43 = .ok (.iload_n 2, 1) := by decide +kernel
theorem dX8_readBit_44 : decode cX8_readBit 44 = .ok (.isub, 1) := by decide +kernel
theorem dX8_readBit_45 : decode cX8_readBit 45 = .ok (.putfield 54, 3) := by decide +kernel
theorem dX8_readBit_48 : decode cX8_readBit 48 = .ok (.aload_n 0, 1) := by decide +kernel
theorem dX8_readBit_49 : decode cX8_readBit 49 = .ok (.aload_n 0, 1) := by decide +kernel
theorem dX8_readBit_50 : decode cX8_readBit 50 = .ok (.getfield 85, 3) := by decide +kernel
theorem dX8_readBit_53 : decode cX8_readBit 53 = .ok (.sipush 256, 3) := by decide +kernel
theorem dX8_readBit_56 : decode cX8_readBit 56 = .ok (.iload_n 2, 1) := by decide +kernel
theorem dX8_readBit_57 : decode cX8_readBit 57 = .ok (.imul, 1) := by decide +kernel
theorem dX8_readBit_58 : decode cX8_readBit 58 = .ok (.isub, 1) := by decide +kernel
theorem dX8_readBit_59 : decode cX8_readBit 59 = .ok (.putfield 85, 3) := by decide +kernel
theorem dX8_readBit_62 : decode cX8_readBit 62 = .ok (.goto 8, 3) := by decide +kernel
theorem dX8_readBit_65 : decode cX8_readBit 65 = .ok (.aload_n 0, 1) := by decide +kernel
theorem dX8_readBit_66 : decode cX8_readBit 66 = .ok (.iload_n 2, 1) := by decide +kernel
theorem dX8_readBit_67 : decode cX8_readBit 67 = .ok (.putfield 54, 3) := by decide +kernel
theorem dX8_readBit_70 : decode cX8_readBit 70 = .ok (.aload_n 0, 1) := by decide +kernel
theorem dX8_readBit_71 : decode cX8_readBit 71 = .ok (.getfield 54, 3) := by decide +kernel
theorem dX8_readBit_74 : decode cX8_readBit 74 = .ok (.sipush 128, 3) := by decide +kernel
theorem dX8_readBit_77 : decode cX8_readBit 77 = .ok (.if_icmp .ge 77, 3) := by decide +kernel
theorem dX8_readBit_80 : decode cX8_readBit 80 = .ok (.aload_n 0, 1) := by decide +kernel
theorem dX8_readBit_81 : decode cX8_readBit 81 = .ok (.iconst 2, 1) := by decide +kernel
theorem dX8_readBit_82 : decode cX8_readBit 82 = .ok (.aload_n 0, 1) := by decide +kernel
theorem dX8_readBit_83 : decode cX8_readBit 83 = .ok (.getfield 54, 3) := by decide +kernel
theorem dX8_readBit_86 : decode cX8_readBit 86 = .ok (.imul, 1) := by decide +kernel
theorem dX8_readBit_87 : decode cX8_readBit 87 = .ok (.putfield 54, 3) := by decide +kernel
theorem dX8_readBit_90 : decode cX8_readBit 90 = .ok (.aload_n 0, 1) := by decide +kernel
theorem dX8_readBit_91 : decode cX8_readBit 91 = .ok (.iconst 2, 1) := by decide +kernel
theorem dX8_readBit_92 : decode cX8_readBit 92 = .ok (.aload_n 0, 1) := by decide +kernel
theorem dX8_readBit_93 : decode cX8_readBit 93 = .ok (.getfield 85, 3) := by decide +kernel
theorem dX8_readBit_96 : decode cX8_readBit 96 = .ok (.imul, 1) := by decide +kernel
theorem dX8_readBit_97 : decode cX8_readBit 97 = .ok (.putfield 85, 3) := by decide +kernel
theorem dX8_readBit_100 : decode cX8_readBit 100 = .ok (.aload_n 0, 1) := by decide +kernel
theorem dX8_readBit_101 : decode cX8_readBit 101 = .ok (.dup, 1) := by decide +kernel
theorem dX8_readBit_102 : decode cX8_readBit 102 = .ok (.getfield 57, 3) := by decide +kernel
theorem dX8_readBit_105 : decode cX8_readBit 105 = .ok (.iconst 1, 1) := by decide +kernel
theorem dX8_readBit_106 : decode cX8_readBit 106 = .ok (.iadd, 1) := by decide +kernel
theorem dX8_readBit_107 : decode cX8_readBit 107 = .ok (.putfield 57, 3) := by decide +kernel
theorem dX8_readBit_110 : decode cX8_readBit 110 = .ok (.aload_n 0, 1) := by decide +kernel
theorem dX8_readBit_111 : decode cX8_readBit 111 = .ok (.getfield 57, 3) := by decide +kernel
theorem dX8_readBit_114 : decode cX8_readBit 114 = .ok (.bipush 8, 2) := by decide +kernel
theorem dX8_readBit_116 : decode cX8_readBit 116 = .ok (.if_icmp .ne (-46), 3) := by decide +kernel
theorem dX8_readBit_119 : decode cX8_readBit 119 = .ok (.aload_n 0, 1) := by decide +kernel
theorem dX8_readBit_120 : decode cX8_readBit 120 = .ok (.iconst 0, 1) := by decide +kernel
theorem dX8_readBit_121 : decode cX8_readBit 121 = .ok (.putfield 57, 3) := by decide +kernel
theorem dX8_readBit_124 : decode cX8_readBit 124 = .ok (.aload_n 0, 1) := by decide +kernel
theorem dX8_readBit_125 : decode cX8_readBit 125 = .ok (.aload_n 0, 1) := by decide +kernel
theorem dX8_readBit_126 : decode cX8_readBit 126 = .ok (.getfield 85, 3) := by decide +kernel
theorem dX8_readBit_129 : decode cX8_readBit 129 = .ok (.aload_n 0, 1) := by decide +kernel
theorem dX8_readBit_130 : decode cX8_readBit 130 = .ok (.aload_n 0, 1) := by decide +kernel
theorem dX8_readBit_131 : decode cX8_readBit 131 = .ok (.getfield 88, 3) := by decide +kernel
theorem dX8_readBit_134 : decode cX8_readBit 134 = .ok (.invokevirtual 81, 3) := by decide +kernel
theorem dX8_readBit_137 : decode cX8_readBit 137 = .ok (.iadd, 1) := by decide +kernel
theorem dX8_readBit_138 : decode cX8_readBit 138 = .ok (.putfield 85, 3) := by decide +kernel
theorem dX8_readBit_141 : decode cX8_readBit 141 = .ok (.aload_n 0, 1) := by decide +kernel
theorem dX8_readBit_142 : decode cX8_readBit 142 = .ok (.dup, 1) := by decide +kernel
theorem dX8_readBit_143 : decode cX8_readBit 143 = .ok (.getfield 88, 3) := by decide +kernel
theorem dX8_readBit_146 : decode cX8_readBit 146 = .ok (.iconst 1, 1) := by decide +kernel
theorem dX8_readBit_147 : decode cX8_readBit 147 = .ok (.iadd, 1) := by decide +kernel
theorem dX8_readBit_148 : decode cX8_readBit 148 = .ok (.putfield 88, 3) := by decide +kernel
theorem dX8_readBit_151 : decode cX8_readBit 151 = .ok (.goto (-81), 3) := by decide +kernel
theorem dX8_readBit_154 : decode cX8_readBit 154 = .ok (.iload_n 3, 1) := by decide +kernel
theorem dX8_readBit_155 : decode cX8_readBit 155 = .ok (.ireturn, 1) := by decide +kernel
theorem dX8_readMany_0 : decode cX8_readMany 0 = .ok (.iconst 0, 1) := by decide +kernel
theorem dX8_readMany_1 : decode cX8_readMany 1 = .ok (.istore_n 3, 1) := by decide +kernel
theorem dX8_readMany_2 : decode cX8_readMany 2 = .ok (.iconst 0, 1) := by decide +kernel
theorem dX8_readMany_3 : decode cX8_readMany 3 = .ok (.istore 4, 2) := by decide +kernel
theorem dX8_readMany_5 : decode cX8_readMany 5 = .ok (.iload 4, 2) := by decide +kernel
theorem dX8_readMany_7 : decode cX8_readMany 7 = .ok (.iload_n 2, 1) := by decide +kernel
theorem dX8_readMany_8 : decode cX8_readMany 8 = .ok (.if_icmp .ge 19, 3) := by decide +kernel
theorem dX8_readMany_11 : decode cX8_readMany 11 = .ok (.iconst 2, 1) := by decide +kernel
theorem dX8_readMany_12 : decode cX8_readMany 12 = .ok (.iload_n 3, 1) := by decide +kernel
theorem dX8_readMany_13 : decode cX8_readMany 13 = .ok (.imul, 1) := by decide +kernel
theorem dX8_readMany_14 : decode cX8_readMany 14 = .ok (.aload_n 0, 1) := by decide +kernel
theorem dX8_readMany_15 : decode cX8_readMany 15 = .ok (.iload_n 1, 1) := by decide +kernel
theorem dX8_readMany_16 : decode cX8_readMany 16 = .ok (.invokevirtual 94, 3) := by decide +kernel
theorem dX8_readMany_19 : decode cX8_readMany 19 = .ok (.iadd, 1) := by decide +kernel
theorem dX8_readMany_20 : decode cX8_readMany 20 = .ok (.istore_n 3, 1) := by decide +kernel
theorem dX8_readMany_21 : decode cX8_readMany 21 = .ok (.iinc 4 1, 3) := by decide +kernel
theorem dX8_readMany_24 : decode cX8_readMany 24 = .ok (.goto (-19), 3) := by decide +kernel
theorem dX8_readMany_27 : decode cX8_readMany 27 = .ok (.iload_n 3, 1) := by decide +kernel
theorem dX8_readMany_28 : decode cX8_readMany 28 = .ok (.ireturn, 1) := by decide +kernel
theorem dX8_get_0 : decode cX8_get 0 = .ok (.iload_n 1, 1) := by decide +kernel
theorem dX8_get_1 : decode cX8_get 1 = .ok (.iconst 1, 1) := by decide +kernel
theorem dX8_get_2 : decode cX8_get 2 = .ok (.sipush 255, 3) := by decide +kernel
theorem dX8_get_5 : decode cX8_get 5 = .ok (.invokestatic 36, 3) := by decide +kernel
theorem dX8_get_8 : decode cX8_get 8 = .ok (.ifCond .eq 17, 3) := by decide +kernel
theorem dX8_get_11 : decode cX8_get 11 = .ok (.iload_n 2, 1) := by decide +kernel
theorem dX8_get_12 : decode cX8_get 12 = .ok (.iconst 0, 1) := by decide +kernel
theorem dX8_get_13 : decode cX8_get 13 = .ok (.bipush 32, 2) := by decide +kernel
theorem dX8_get_15 : decode cX8_get 15 = .ok (.invokestatic 36, 3) := by decide +kernel
theorem dX8_get_18 : decode cX8_get 18 = .ok (.ifCond .eq 7, 3) := by decide +kernel
theorem dX8_get_21 : decode cX8_get 21 = .ok (.iconst 1, 1) := by decide +kernel
theorem dX8_get_22 : decode cX8_get 22 = .ok (.goto 4, 3) := by decide +kernel
theorem dX8_get_25 : decode cX8_get 25 = .ok (.iconst 0, 1) := by decide +kernel
theorem dX8_get_26 : decode cX8_get 26 = .ok (.istore_n 3, 1) := by decide +kernel
theorem dX8_get_27 : decode cX8_get 27 = .ok (.aload_n 0, 1) := by decide +kernel
theorem dX8_get_28 : decode cX8_get 28 = .ok (.iload_n 3, 1) := by decide +kernel
theorem dX8_get_29 : decode cX8_get 29 = .ok (.ifCond .ne 7, 3) := by decide +kernel
theorem dX8_get_32 : decode cX8_get 32 = .ok (.iconst 1, 1) := by decide +kernel
theorem dX8_get_33 : decode cX8_get 33 = .ok (.goto 16, 3) := by decide +kernel
theorem dX8_get_36 : decode cX8_get 36 = .ok (.aload_n 0, 1) := by decide +kernel
theorem dX8_get_37 : decode cX8_get 37 = .ok (.getfield 47, 3) := by decide +kernel
theorem dX8_get_40 : decode cX8_get 40 = .ok (.iconst 2, 1) := by decide +kernel
theorem dX8_get_41 : decode cX8_get 41 = .ok (.if_icmp .eq 7, 3) := by decide +kernel
theorem dX8_get_44 : decode cX8_get 44 = .ok (.iconst 2, 1) := by decide +kernel
theorem dX8_get_45 : decode cX8_get 45 = .ok (.goto 4, 3) := by decide +kernel
theorem dX8_get_48 : decode cX8_get 48 = .ok (.iconst 0, 1) := by decide +kernel
theorem dX8_get_49 : decode cX8_get 49 = .ok (.invokevirtual 43, 3) := by decide +kernel
theorem dX8_get_52 : decode cX8_get 52 = .ok (.ifCond .eq 5, 3) := by decide +kernel
theorem dX8_get_55 : decode cX8_get 55 = .ok (.iconst 0, 1) := by decide +kernel
theorem dX8_get_56 : decode cX8_get 56 = .ok (.ireturn, 1) := by decide +kernel
theorem dX8_get_57 : decode cX8_get 57 = .ok (.aload_n 0, 1) := by decide +kernel
theorem dX8_get_58 : decode cX8_get 58 = .ok (.iload_n 1, 1) := by decide +kernel
theorem dX8_get_59 : decode cX8_get 59 = .ok (.iload_n 2, 1) := by decide +kernel
theorem dX8_get_60 : decode cX8_get 60 = .ok (.invokevirtual 97, 3) := by decide +kernel
theorem dX8_get_63 : decode cX8_get 63 = .ok (.ireturn, 1) := by decide +kernel
theorem dX8_band_0 : decode cX8_band 0 = .ok (.iload_n 0, 1) := by decide +kernel
theorem dX8_band_1 : decode cX8_band 1 = .ok (.iconst 4, 1) := by decide +kernel
theorem dX8_band_2 : decode cX8_band 2 = .ok (.if_icmp .ge 7, 3) := by decide +kernel
theorem dX8_band_5 : decode cX8_band 5 = .ok (.iload_n 0, 1) := by decide +kernel
theorem dX8_band_6 : decode cX8_band 6 = .ok (.goto 35, 3) := by decide +kernel
theorem dX8_band_9 : decode cX8_band 9 = .ok (.iload_n 0, 1) := by decide +kernel
theorem dX8_band_10 : decode cX8_band 10 = .ok (.iconst 5, 1) := by decide +kernel
theorem dX8_band_11 : decode cX8_band 11 = .ok (.if_icmp .ne 7, 3) := by decide +kernel
theorem dX8_band_14 : decode cX8_band 14 = .ok (.iconst 4, 1) := by decide +kernel
theorem dX8_band_15 : decode cX8_band 15 = .ok (.goto 26, 3) := by decide +kernel
theorem dX8_band_18 : decode cX8_band 18 = .ok (.iload_n 0, 1) := by decide +kernel
theorem dX8_band_19 : decode cX8_band 19 = .ok (.bipush 6, 2) := by decide +kernel
theorem dX8_band_21 : decode cX8_band 21 = .ok (.if_icmp .ne 7, 3) := by decide +kernel
theorem dX8_band_24 : decode cX8_band 24 = .ok (.iconst 5, 1) := by decide +kernel
theorem dX8_band_25 : decode cX8_band 25 = .ok (.goto 16, 3) := by decide +kernel
theorem dX8_band_28 : decode cX8_band 28 = .ok (.iload_n 0, 1) := by decide +kernel
theorem dX8_band_29 : decode cX8_band 29 = .ok (.bipush 15, 2) := by decide +kernel
theorem dX8_band_31 : decode cX8_band 31 = .ok (.if_icmp .ne 8, 3) := by decide +kernel
theorem dX8_band_34 : decode cX8_band 34 = .ok (.bipush 7, 2) := by decide +kernel
theorem dX8_band_36 : decode cX8_band 36 = .ok (.goto 5, 3) := by decide +kernel
theorem dX8_band_39 : decode cX8_band 39 = .ok (.bipush 6, 2) := by decide +kernel
theorem dX8_band_41 : decode cX8_band 41 = .ok (.ireturn, 1) := by decide +kernel
theorem dX8_spot_0 : decode cX8_spot 0 = .ok (.iload_n 0, 1) := by decide +kernel
theorem dX8_spot_1 : decode cX8_spot 1 = .ok (.tableswitch 113 0 15 #[79, 79, 81, 83, 86, 88, 90, 92, 95, 98, 101, 104, 107, 110, 113, 79], 79) := by decide +kernel
theorem dX8_spot_80 : decode cX8_spot 80 = .ok (.iload_n 0, 1) := by decide +kernel
theorem dX8_spot_81 : decode cX8_spot 81 = .ok (.ireturn, 1) := by decide +kernel
theorem dX8_spot_82 : decode cX8_spot 82 = .ok (.iconst 4, 1) := by decide +kernel
theorem dX8_spot_83 : decode cX8_spot 83 = .ok (.ireturn, 1) := by decide +kernel
theorem dX8_spot_84 : decode cX8_spot 84 = .ok (.bipush 8, 2) := by decide +kernel
theorem dX8_spot_86 : decode cX8_spot 86 = .ok (.ireturn, 1) := by decide +kernel
theorem dX8_spot_87 : decode cX8_spot 87 = .ok (.iconst 5, 1) := by decide +kernel
theorem dX8_spot_88 : decode cX8_spot 88 = .ok (.ireturn, 1) := by decide +kernel
theorem dX8_spot_89 : decode cX8_spot 89 = .ok (.iconst 2, 1) := by decide +kernel
theorem dX8_spot_90 : decode cX8_spot 90 = .ok (.ireturn, 1) := by decide +kernel
theorem dX8_spot_91 : decode cX8_spot 91 = .ok (.iconst 3, 1) := by decide +kernel
theorem dX8_spot_92 : decode cX8_spot 92 = .ok (.ireturn, 1) := by decide +kernel
theorem dX8_spot_93 : decode cX8_spot 93 = .ok (.bipush 6, 2) := by decide +kernel
theorem dX8_spot_95 : decode cX8_spot 95 = .ok (.ireturn, 1) := by decide +kernel
theorem dX8_spot_96 : decode cX8_spot 96 = .ok (.bipush 9, 2) := by decide +kernel
theorem dX8_spot_98 : decode cX8_spot 98 = .ok (.ireturn, 1) := by decide +kernel
theorem dX8_spot_99 : decode cX8_spot 99 = .ok (.bipush 12, 2) := by decide +kernel
theorem dX8_spot_101 : decode cX8_spot 101 = .ok (.ireturn, 1) := by decide +kernel
theorem dX8_spot_102 : decode cX8_spot 102 = .ok (.bipush 13, 2) := by decide +kernel
theorem dX8_spot_104 : decode cX8_spot 104 = .ok (.ireturn, 1) := by decide +kernel
theorem dX8_spot_105 : decode cX8_spot 105 = .ok (.bipush 10, 2) := by decide +kernel
theorem dX8_spot_107 : decode cX8_spot 107 = .ok (.ireturn, 1) := by decide +kernel
theorem dX8_spot_108 : decode cX8_spot 108 = .ok (.bipush 7, 2) := by decide +kernel
theorem dX8_spot_110 : decode cX8_spot 110 = .ok (.ireturn, 1) := by decide +kernel
theorem dX8_spot_111 : decode cX8_spot 111 = .ok (.bipush 11, 2) := by decide +kernel
theorem dX8_spot_113 : decode cX8_spot 113 = .ok (.ireturn, 1) := by decide +kernel
theorem dX8_spot_114 : decode cX8_spot 114 = .ok (.bipush 14, 2) := by decide +kernel
theorem dX8_spot_116 : decode cX8_spot 116 = .ok (.ireturn, 1) := by decide +kernel
theorem dX8_last_0 : decode cX8_last 0 = .ok (.iload_n 0, 1) := by decide +kernel
theorem dX8_last_1 : decode cX8_last 1 = .ok (.tableswitch 91 0 9 #[55, 55, 59, 63, 67, 71, 75, 79, 83, 87], 55) := by decide +kernel
theorem dX8_last_56 : decode cX8_last 56 = .ok (.sipush 254, 3) := by decide +kernel
theorem dX8_last_59 : decode cX8_last 59 = .ok (.ireturn, 1) := by decide +kernel
theorem dX8_last_60 : decode cX8_last 60 = .ok (.sipush 243, 3) := by decide +kernel
theorem dX8_last_63 : decode cX8_last 63 = .ok (.ireturn, 1) := by decide +kernel
theorem dX8_last_64 : decode cX8_last 64 = .ok (.sipush 230, 3) := by decide +kernel
theorem dX8_last_67 : decode cX8_last 67 = .ok (.ireturn, 1) := by decide +kernel
theorem dX8_last_68 : decode cX8_last 68 = .ok (.sipush 196, 3) := by decide +kernel
theorem dX8_last_71 : decode cX8_last 71 = .ok (.ireturn, 1) := by decide +kernel
theorem dX8_last_72 : decode cX8_last 72 = .ok (.sipush 177, 3) := by decide +kernel
theorem dX8_last_75 : decode cX8_last 75 = .ok (.ireturn, 1) := by decide +kernel
theorem dX8_last_76 : decode cX8_last 76 = .ok (.sipush 153, 3) := by decide +kernel
theorem dX8_last_79 : decode cX8_last 79 = .ok (.ireturn, 1) := by decide +kernel
theorem dX8_last_80 : decode cX8_last 80 = .ok (.sipush 140, 3) := by decide +kernel
theorem dX8_last_83 : decode cX8_last 83 = .ok (.ireturn, 1) := by decide +kernel
theorem dX8_last_84 : decode cX8_last 84 = .ok (.sipush 133, 3) := by decide +kernel
theorem dX8_last_87 : decode cX8_last 87 = .ok (.ireturn, 1) := by decide +kernel
theorem dX8_last_88 : decode cX8_last 88 = .ok (.sipush 130, 3) := by decide +kernel
theorem dX8_last_91 : decode cX8_last 91 = .ok (.ireturn, 1) := by decide +kernel
theorem dX8_last_92 : decode cX8_last 92 = .ok (.sipush 129, 3) := by decide +kernel
theorem dX8_last_95 : decode cX8_last 95 = .ok (.ireturn, 1) := by decide +kernel
theorem dX8_added_0 : decode cX8_added 0 = .ok (.iconst 0, 1) := by decide +kernel
theorem dX8_added_1 : decode cX8_added 1 = .ok (.istore 5, 2) := by decide +kernel
theorem dX8_added_3 : decode cX8_added 3 = .ok (.iload 4, 2) := by decide +kernel
theorem dX8_added_5 : decode cX8_added 5 = .ok (.iconst 1, 1) := by decide +kernel
theorem dX8_added_6 : decode cX8_added 6 = .ok (.isub, 1) := by decide +kernel
theorem dX8_added_7 : decode cX8_added 7 = .ok (.istore 6, 2) := by decide +kernel
theorem dX8_added_9 : decode cX8_added 9 = .ok (.iload 6, 2) := by decide +kernel
theorem dX8_added_11 : decode cX8_added 11 = .ok (.ifCond .lt 32, 3) := by decide +kernel
theorem dX8_added_14 : decode cX8_added 14 = .ok (.iconst 2, 1) := by decide +kernel
theorem dX8_added_15 : decode cX8_added 15 = .ok (.iload 5, 2) := by decide +kernel
theorem dX8_added_17 : decode cX8_added 17 = .ok (.imul, 1) := by decide +kernel
theorem dX8_added_18 : decode cX8_added 18 = .ok (.aload_n 0, 1) := by decide +kernel
theorem dX8_added_19 : decode cX8_added 19 = .ok (.lload_n 2, 1) := by decide +kernel
theorem dX8_added_20 : decode cX8_added 20 = .ok (.bipush 8, 2) := by decide +kernel
theorem dX8_added_22 : decode cX8_added 22 = .ok (.iload 6, 2) := by decide +kernel
theorem dX8_added_24 : decode cX8_added 24 = .ok (.imul, 1) := by decide +kernel
theorem dX8_added_25 : decode cX8_added 25 = .ok (.lshr, 1) := by decide +kernel
theorem dX8_added_26 : decode cX8_added 26 = .ok (.ldc2_w 60, 3) := by decide +kernel
theorem dX8_added_29 : decode cX8_added 29 = .ok (.land, 1) := by decide +kernel
theorem dX8_added_30 : decode cX8_added 30 = .ok (.l2i, 1) := by decide +kernel
theorem dX8_added_31 : decode cX8_added 31 = .ok (.invokevirtual 94, 3) := by decide +kernel
theorem dX8_added_34 : decode cX8_added 34 = .ok (.iadd, 1) := by decide +kernel
theorem dX8_added_35 : decode cX8_added 35 = .ok (.istore 5, 2) := by decide +kernel
theorem dX8_added_37 : decode cX8_added 37 = .ok (.iinc 6 (-1), 3) := by decide +kernel
theorem dX8_added_40 : decode cX8_added 40 = .ok (.goto (-31), 3) := by decide +kernel
theorem dX8_added_43 : decode cX8_added 43 = .ok (.iload_n 1, 1) := by decide +kernel
theorem dX8_added_44 : decode cX8_added 44 = .ok (.iload 5, 2) := by decide +kernel
theorem dX8_added_46 : decode cX8_added 46 = .ok (.iadd, 1) := by decide +kernel
theorem dX8_added_47 : decode cX8_added 47 = .ok (.ireturn, 1) := by decide +kernel
theorem dX8_tell_0 : decode cX8_tell 0 = .ok (.aload_n 0, 1) := by decide +kernel
theorem dX8_tell_1 : decode cX8_tell 1 = .ok (.aload_n 0, 1) := by decide +kernel
theorem dX8_tell_2 : decode cX8_tell 2 = .ok (.getfield 13, 3) := by decide +kernel
theorem dX8_tell_5 : decode cX8_tell 5 = .ok (.iload_n 1, 1) := by decide +kernel
theorem dX8_tell_6 : decode cX8_tell 6 = .ok (.iload_n 2, 1) := by decide +kernel
theorem dX8_tell_7 : decode cX8_tell 7 = .ok (.iadd, 1) := by decide +kernel
theorem dX8_tell_8 : decode cX8_tell 8 = .ok (.iaload, 1) := by decide +kernel
theorem dX8_tell_9 : decode cX8_tell 9 = .ok (.invokevirtual 94, 3) := by decide +kernel
theorem dX8_tell_12 : decode cX8_tell 12 = .ok (.ireturn, 1) := by decide +kernel
theorem dX8_large_0 : decode cX8_large 0 = .ok (.aload_n 0, 1) := by decide +kernel
theorem dX8_large_1 : decode cX8_large 1 = .ok (.iload_n 1, 1) := by decide +kernel
theorem dX8_large_2 : decode cX8_large 2 = .ok (.bipush 6, 2) := by decide +kernel
theorem dX8_large_4 : decode cX8_large 4 = .ok (.invokevirtual 101, 3) := by decide +kernel
theorem dX8_large_7 : decode cX8_large 7 = .ok (.ifCond .ne 36, 3) := by decide +kernel
theorem dX8_large_10 : decode cX8_large 10 = .ok (.aload_n 0, 1) := by decide +kernel
theorem dX8_large_11 : decode cX8_large 11 = .ok (.iload_n 1, 1) := by decide +kernel
theorem dX8_large_12 : decode cX8_large 12 = .ok (.bipush 7, 2) := by decide +kernel
theorem dX8_large_14 : decode cX8_large 14 = .ok (.invokevirtual 101, 3) := by decide +kernel
theorem dX8_large_17 : decode cX8_large 17 = .ok (.ifCond .ne 15, 3) := by decide +kernel
theorem dX8_large_20 : decode cX8_large 20 = .ok (.aload_n 0, 1) := by decide +kernel
theorem dX8_large_21 : decode cX8_large 21 = .ok (.iconst 5, 1) := by decide +kernel
theorem dX8_large_22 : decode cX8_large 22 = .ok (.ldc2_w 104, 3) := by decide +kernel
theorem dX8_large_25 : decode cX8_large 25 = .ok (.iconst 1, 1) := by decide +kernel
theorem dX8_large_26 : decode cX8_large 26 = .ok (.invokevirtual 106, 3) := by decide +kernel
theorem dX8_large_29 : decode cX8_large 29 = .ok (.goto 13, 3) := by decide +kernel
theorem dX8_large_32 : decode cX8_large 32 = .ok (.aload_n 0, 1) := by decide +kernel
theorem dX8_large_33 : decode cX8_large 33 = .ok (.bipush 7, 2) := by decide +kernel
theorem dX8_large_35 : decode cX8_large 35 = .ok (.ldc2_w 110, 3) := by decide +kernel
theorem dX8_large_38 : decode cX8_large 38 = .ok (.iconst 2, 1) := by decide +kernel
theorem dX8_large_39 : decode cX8_large 39 = .ok (.invokevirtual 106, 3) := by decide +kernel
theorem dX8_large_42 : decode cX8_large 42 = .ok (.ireturn, 1) := by decide +kernel
theorem dX8_large_43 : decode cX8_large 43 = .ok (.aload_n 0, 1) := by decide +kernel
theorem dX8_large_44 : decode cX8_large 44 = .ok (.iload_n 1, 1) := by decide +kernel
theorem dX8_large_45 : decode cX8_large 45 = .ok (.bipush 8, 2) := by decide +kernel
theorem dX8_large_47 : decode cX8_large 47 = .ok (.invokevirtual 101, 3) := by decide +kernel
theorem dX8_large_50 : decode cX8_large 50 = .ok (.ifCond .ne 37, 3) := by decide +kernel
theorem dX8_large_53 : decode cX8_large 53 = .ok (.aload_n 0, 1) := by decide +kernel
theorem dX8_large_54 : decode cX8_large 54 = .ok (.iload_n 1, 1) := by decide +kernel
theorem dX8_large_55 : decode cX8_large 55 = .ok (.bipush 9, 2) := by decide +kernel
theorem dX8_large_57 : decode cX8_large 57 = .ok (.invokevirtual 101, 3) := by decide +kernel
theorem dX8_large_60 : decode cX8_large 60 = .ok (.ifCond .ne 16, 3) := by decide +kernel
theorem dX8_large_63 : decode cX8_large 63 = .ok (.aload_n 0, 1) := by decide +kernel
theorem dX8_large_64 : decode cX8_large 64 = .ok (.bipush 11, 2) := by decide +kernel
theorem dX8_large_66 : decode cX8_large 66 = .ok (.ldc2_w 112, 3) := by decide +kernel
theorem dX8_large_69 : decode cX8_large 69 = .ok (.iconst 3, 1) := by decide +kernel
theorem dX8_large_70 : decode cX8_large 70 = .ok (.invokevirtual 106, 3) := by decide +kernel
theorem dX8_large_73 : decode cX8_large 73 = .ok (.goto 13, 3) := by decide +kernel
theorem dX8_large_76 : decode cX8_large 76 = .ok (.aload_n 0, 1) := by decide +kernel
theorem dX8_large_77 : decode cX8_large 77 = .ok (.bipush 19, 2) := by decide +kernel
theorem dX8_large_79 : decode cX8_large 79 = .ok (.ldc2_w 114, 3) := by decide +kernel
theorem dX8_large_82 : decode cX8_large 82 = .ok (.iconst 4, 1) := by decide +kernel
theorem dX8_large_83 : decode cX8_large 83 = .ok (.invokevirtual 106, 3) := by decide +kernel
theorem dX8_large_86 : decode cX8_large 86 = .ok (.ireturn, 1) := by decide +kernel
theorem dX8_large_87 : decode cX8_large 87 = .ok (.aload_n 0, 1) := by decide +kernel
theorem dX8_large_88 : decode cX8_large 88 = .ok (.iload_n 1, 1) := by decide +kernel
theorem dX8_large_89 : decode cX8_large 89 = .ok (.bipush 10, 2) := by decide +kernel
theorem dX8_large_91 : decode cX8_large 91 = .ok (.invokevirtual 101, 3) := by decide +kernel
theorem dX8_large_94 : decode cX8_large 94 = .ok (.ifCond .ne 14, 3) := by decide +kernel
theorem dX8_large_97 : decode cX8_large 97 = .ok (.aload_n 0, 1) := by decide +kernel
theorem dX8_large_98 : decode cX8_large 98 = .ok (.bipush 35, 2) := by decide +kernel
theorem dX8_large_100 : decode cX8_large 100 = .ok (.ldc2_w 116, 3) := by decide +kernel
theorem dX8_large_103 : decode cX8_large 103 = .ok (.iconst 5, 1) := by decide +kernel
theorem dX8_large_104 : decode cX8_large 104 = .ok (.invokevirtual 106, 3) := by decide +kernel
theorem dX8_large_107 : decode cX8_large 107 = .ok (.ireturn, 1) := by decide +kernel
theorem dX8_large_108 : decode cX8_large 108 = .ok (.iconst 0, 1) := by decide +kernel
theorem dX8_large_109 : decode cX8_large 109 = .ok (.istore_n 2, 1) := by decide +kernel
theorem dX8_large_110 : decode cX8_large 110 = .ok (.iconst 0, 1) := by decide +kernel
theorem dX8_large_111 : decode cX8_large 111 = .ok (.istore_n 3, 1) := by decide +kernel
theorem dX8_large_112 : decode cX8_large 112 = .ok (.iload_n 3, 1) := by decide +kernel
theorem dX8_large_113 : decode cX8_large 113 = .ok (.bipush 11, 2) := by decide +kernel
theorem dX8_large_115 : decode cX8_large 115 = .ok (.if_icmp .ge 22, 3) := by decide +kernel
theorem dX8_large_118 : decode cX8_large 118 = .ok (.iconst 2, 1) := by decide +kernel
theorem dX8_large_119 : decode cX8_large 119 = .ok (.iload_n 2, 1) := by decide +kernel
theorem dX8_large_120 : decode cX8_large 120 = .ok (.imul, 1) := by decide +kernel
theorem dX8_large_121 : decode cX8_large 121 = .ok (.aload_n 0, 1) := by decide +kernel
theorem dX8_large_122 : decode cX8_large 122 = .ok (.iload_n 3, 1) := by decide +kernel
theorem dX8_large_123 : decode cX8_large 123 = .ok (.invokestatic 118, 3) := by decide +kernel
theorem dX8_large_126 : decode cX8_large 126 = .ok (.invokevirtual 94, 3) := by decide +kernel
theorem dX8_large_129 : decode cX8_large 129 = .ok (.iadd, 1) := by decide +kernel
theorem dX8_large_130 : decode cX8_large 130 = .ok (.istore_n 2, 1) := by decide +kernel
end
section
theorem dX8_large_131 : decode cX8_large 131 = .ok (.iinc 3 1, 3) := by decide +kernel
theorem dX8_large_134 : decode cX8_large 134 = .ok (.goto (-22), 3) := by decide +kernel
theorem dX8_large_137 : decode cX8_large 137 = .ok (.bipush 67, 2) := by decide +kernel
theorem dX8_large_139 : decode cX8_large 139 = .ok (.iload_n 2, 1) := by decide +kernel
theorem dX8_large_140 : decode cX8_large 140 = .ok (.iadd, 1) := by decide +kernel
theorem dX8_large_141 : decode cX8_large 141 = .ok (.ireturn, 1) := by decide +kernel
theorem dX8_sizeOf_0 : decode cX8_sizeOf 0 = .ok (.aload_n 0, 1) := by decide +kernel
theorem dX8_sizeOf_1 : decode cX8_sizeOf 1 = .ok (.iload_n 1, 1) := by decide +kernel
theorem dX8_sizeOf_2 : decode cX8_sizeOf 2 = .ok (.iconst 2, 1) := by decide +kernel
theorem dX8_sizeOf_3 : decode cX8_sizeOf 3 = .ok (.invokevirtual 101, 3) := by decide +kernel
theorem dX8_sizeOf_6 : decode cX8_sizeOf 6 = .ok (.ifCond .ne 5, 3) := by decide +kernel
theorem dX8_sizeOf_9 : decode cX8_sizeOf 9 = .ok (.iconst 1, 1) := by decide +kernel
theorem dX8_sizeOf_10 : decode cX8_sizeOf 10 = .ok (.ireturn, 1) := by decide +kernel
theorem dX8_sizeOf_11 : decode cX8_sizeOf 11 = .ok (.aload_n 0, 1) := by decide +kernel
theorem dX8_sizeOf_12 : decode cX8_sizeOf 12 = .ok (.iload_n 1, 1) := by decide +kernel
theorem dX8_sizeOf_13 : decode cX8_sizeOf 13 = .ok (.iconst 3, 1) := by decide +kernel
theorem dX8_sizeOf_14 : decode cX8_sizeOf 14 = .ok (.invokevirtual 101, 3) := by decide +kernel
theorem dX8_sizeOf_17 : decode cX8_sizeOf 17 = .ok (.iconst 1, 1) := by decide +kernel
theorem dX8_sizeOf_18 : decode cX8_sizeOf 18 = .ok (.if_icmp .ne 9, 3) := by decide +kernel
theorem dX8_sizeOf_21 : decode cX8_sizeOf 21 = .ok (.aload_n 0, 1) := by decide +kernel
theorem dX8_sizeOf_22 : decode cX8_sizeOf 22 = .ok (.iload_n 1, 1) := by decide +kernel
theorem dX8_sizeOf_23 : decode cX8_sizeOf 23 = .ok (.invokevirtual 121, 3) := by decide +kernel
theorem dX8_sizeOf_26 : decode cX8_sizeOf 26 = .ok (.ireturn, 1) := by decide +kernel
theorem dX8_sizeOf_27 : decode cX8_sizeOf 27 = .ok (.aload_n 0, 1) := by decide +kernel
theorem dX8_sizeOf_28 : decode cX8_sizeOf 28 = .ok (.iload_n 1, 1) := by decide +kernel
theorem dX8_sizeOf_29 : decode cX8_sizeOf 29 = .ok (.iconst 4, 1) := by decide +kernel
theorem dX8_sizeOf_30 : decode cX8_sizeOf 30 = .ok (.invokevirtual 101, 3) := by decide +kernel
theorem dX8_sizeOf_33 : decode cX8_sizeOf 33 = .ok (.ifCond .ne 5, 3) := by decide +kernel
theorem dX8_sizeOf_36 : decode cX8_sizeOf 36 = .ok (.iconst 2, 1) := by decide +kernel
theorem dX8_sizeOf_37 : decode cX8_sizeOf 37 = .ok (.ireturn, 1) := by decide +kernel
theorem dX8_sizeOf_38 : decode cX8_sizeOf 38 = .ok (.iconst 3, 1) := by decide +kernel
theorem dX8_sizeOf_39 : decode cX8_sizeOf 39 = .ok (.aload_n 0, 1) := by decide +kernel
theorem dX8_sizeOf_40 : decode cX8_sizeOf 40 = .ok (.iload_n 1, 1) := by decide +kernel
theorem dX8_sizeOf_41 : decode cX8_sizeOf 41 = .ok (.iconst 5, 1) := by decide +kernel
theorem dX8_sizeOf_42 : decode cX8_sizeOf 42 = .ok (.invokevirtual 101, 3) := by decide +kernel
theorem dX8_sizeOf_45 : decode cX8_sizeOf 45 = .ok (.iadd, 1) := by decide +kernel
theorem dX8_sizeOf_46 : decode cX8_sizeOf 46 = .ok (.ireturn, 1) := by decide +kernel
theorem dX8_hasSome_0 : decode cX8_hasSome 0 = .ok (.iconst 0, 1) := by decide +kernel
theorem dX8_hasSome_1 : decode cX8_hasSome 1 = .ok (.istore_n 2, 1) := by decide +kernel
theorem dX8_hasSome_2 : decode cX8_hasSome 2 = .ok (.iload_n 2, 1) := by decide +kernel
theorem dX8_hasSome_3 : decode cX8_hasSome 3 = .ok (.bipush 16, 2) := by decide +kernel
theorem dX8_hasSome_5 : decode cX8_hasSome 5 = .ok (.if_icmp .ge 25, 3) := by decide +kernel
theorem dX8_hasSome_8 : decode cX8_hasSome 8 = .ok (.aload_n 0, 1) := by decide +kernel
theorem dX8_hasSome_9 : decode cX8_hasSome 9 = .ok (.getfield 22, 3) := by decide +kernel
theorem dX8_hasSome_12 : decode cX8_hasSome 12 = .ok (.bipush 16, 2) := by decide +kernel
theorem dX8_hasSome_14 : decode cX8_hasSome 14 = .ok (.iload_n 1, 1) := by decide +kernel
theorem dX8_hasSome_15 : decode cX8_hasSome 15 = .ok (.imul, 1) := by decide +kernel
theorem dX8_hasSome_16 : decode cX8_hasSome 16 = .ok (.iload_n 2, 1) := by decide +kernel
theorem dX8_hasSome_17 : decode cX8_hasSome 17 = .ok (.iadd, 1) := by decide +kernel
theorem dX8_hasSome_18 : decode cX8_hasSome 18 = .ok (.iaload, 1) := by decide +kernel
theorem dX8_hasSome_19 : decode cX8_hasSome 19 = .ok (.ifCond .eq 5, 3) := by decide +kernel
theorem dX8_hasSome_22 : decode cX8_hasSome 22 = .ok (.iconst 1, 1) := by decide +kernel
theorem dX8_hasSome_23 : decode cX8_hasSome 23 = .ok (.ireturn, 1) := by decide +kernel
theorem dX8_hasSome_24 : decode cX8_hasSome 24 = .ok (.iinc 2 1, 3) := by decide +kernel
theorem dX8_hasSome_27 : decode cX8_hasSome 27 = .ok (.goto (-25), 3) := by decide +kernel
theorem dX8_hasSome_30 : decode cX8_hasSome 30 = .ok (.iconst 0, 1) := by decide +kernel
theorem dX8_hasSome_31 : decode cX8_hasSome 31 = .ok (.ireturn, 1) := by decide +kernel
theorem dX8_readCoefficients_0 : decode cX8_readCoefficients 0 = .ok (.iconst 0, 1) := by decide +kernel
theorem dX8_readCoefficients_1 : decode cX8_readCoefficients 1 = .ok (.istore_n 2, 1) := by decide +kernel
theorem dX8_readCoefficients_2 : decode cX8_readCoefficients 2 = .ok (.iload_n 1, 1) := by decide +kernel
theorem dX8_readCoefficients_3 : decode cX8_readCoefficients 3 = .ok (.aload_n 0, 1) := by decide +kernel
theorem dX8_readCoefficients_4 : decode cX8_readCoefficients 4 = .ok (.getfield 124, 3) := by decide +kernel
theorem dX8_readCoefficients_7 : decode cX8_readCoefficients 7 = .ok (.irem, 1) := by decide +kernel
theorem dX8_readCoefficients_8 : decode cX8_readCoefficients 8 = .ok (.ifCond .le 16, 3) := by decide +kernel
theorem dX8_readCoefficients_11 : decode cX8_readCoefficients 11 = .ok (.aload_n 0, 1) := by decide +kernel
theorem dX8_readCoefficients_12 : decode cX8_readCoefficients 12 = .ok (.iload_n 1, 1) := by decide +kernel
theorem dX8_readCoefficients_13 : decode cX8_readCoefficients 13 = .ok (.iconst 1, 1) := by decide +kernel
theorem dX8_readCoefficients_14 : decode cX8_readCoefficients 14 = .ok (.isub, 1) := by decide +kernel
theorem dX8_readCoefficients_15 : decode cX8_readCoefficients 15 = .ok (.invokevirtual 127, 3) := by decide +kernel
theorem dX8_readCoefficients_18 : decode cX8_readCoefficients 18 = .ok (.ifCond .eq 6, 3) := by decide +kernel
theorem dX8_readCoefficients_21 : decode cX8_readCoefficients 21 = .ok (.iinc 2 1, 3) := by decide +kernel
theorem dX8_readCoefficients_24 : decode cX8_readCoefficients 24 = .ok (.iload_n 1, 1) := by decide +kernel
theorem dX8_readCoefficients_25 : decode cX8_readCoefficients 25 = .ok (.aload_n 0, 1) := by decide +kernel
theorem dX8_readCoefficients_26 : decode cX8_readCoefficients 26 = .ok (.getfield 124, 3) := by decide +kernel
theorem dX8_readCoefficients_29 : decode cX8_readCoefficients 29 = .ok (.if_icmp .lt 19, 3) := by decide +kernel
theorem dX8_readCoefficients_32 : decode cX8_readCoefficients 32 = .ok (.aload_n 0, 1) := by decide +kernel
theorem dX8_readCoefficients_33 : decode cX8_readCoefficients 33 = .ok (.iload_n 1, 1) := by decide +kernel
theorem dX8_readCoefficients_34 : decode cX8_readCoefficients 34 = .ok (.aload_n 0, 1) := by decide +kernel
theorem dX8_readCoefficients_35 : decode cX8_readCoefficients 35 = .ok (.getfield 124, 3) := by decide +kernel
theorem dX8_readCoefficients_38 : decode cX8_readCoefficients 38 = .ok (.isub, 1) := by decide +kernel
theorem dX8_readCoefficients_39 : decode cX8_readCoefficients 39 = .ok (.invokevirtual 127, 3) := by decide +kernel
theorem dX8_readCoefficients_42 : decode cX8_readCoefficients 42 = .ok (.ifCond .eq 6, 3) := by decide +kernel
theorem dX8_readCoefficients_45 : decode cX8_readCoefficients 45 = .ok (.iinc 2 1, 3) := by decide +kernel
theorem dX8_readCoefficients_48 : decode cX8_readCoefficients 48 = .ok (.iconst 0, 1) := by decide +kernel
theorem dX8_readCoefficients_49 : decode cX8_readCoefficients 49 = .ok (.istore_n 3, 1) := by decide +kernel
theorem dX8_readCoefficients_50 : decode cX8_readCoefficients 50 = .ok (.iload_n 3, 1) := by decide +kernel
theorem dX8_readCoefficients_51 : decode cX8_readCoefficients 51 = .ok (.bipush 16, 2) := by decide +kernel
theorem dX8_readCoefficients_53 : decode cX8_readCoefficients 53 = .ok (.if_icmp .ge 21, 3) := by decide +kernel
theorem dX8_readCoefficients_56 : decode cX8_readCoefficients 56 = .ok (.aload_n 0, 1) := by decide +kernel
theorem dX8_readCoefficients_57 : decode cX8_readCoefficients 57 = .ok (.getfield 22, 3) := by decide +kernel
theorem dX8_readCoefficients_60 : decode cX8_readCoefficients 60 = .ok (.bipush 16, 2) := by decide +kernel
theorem dX8_readCoefficients_62 : decode cX8_readCoefficients 62 = .ok (.iload_n 1, 1) := by decide +kernel
theorem dX8_readCoefficients_63 : decode cX8_readCoefficients 63 = .ok (.imul, 1) := by decide +kernel
theorem dX8_readCoefficients_64 : decode cX8_readCoefficients 64 = .ok (.iload_n 3, 1) := by decide +kernel
theorem dX8_readCoefficients_65 : decode cX8_readCoefficients 65 = .ok (.iadd, 1) := by decide +kernel
theorem dX8_readCoefficients_66 : decode cX8_readCoefficients 66 = .ok (.iconst 0, 1) := by decide +kernel
theorem dX8_readCoefficients_67 : decode cX8_readCoefficients 67 = .ok (.iastore, 1) := by decide +kernel
theorem dX8_readCoefficients_68 : decode cX8_readCoefficients 68 = .ok (.iinc 3 1, 3) := by decide +kernel
theorem dX8_readCoefficients_71 : decode cX8_readCoefficients 71 = .ok (.goto (-21), 3) := by decide +kernel
theorem dX8_readCoefficients_74 : decode cX8_readCoefficients 74 = .ok (.iconst 0, 1) := by decide +kernel
theorem dX8_readCoefficients_75 : decode cX8_readCoefficients 75 = .ok (.istore_n 3, 1) := by decide +kernel
theorem dX8_readCoefficients_76 : decode cX8_readCoefficients 76 = .ok (.iconst 1, 1) := by decide +kernel
theorem dX8_readCoefficients_77 : decode cX8_readCoefficients 77 = .ok (.istore 4, 2) := by decide +kernel
theorem dX8_readCoefficients_79 : decode cX8_readCoefficients 79 = .ok (.iconst 0, 1) := by decide +kernel
theorem dX8_readCoefficients_80 : decode cX8_readCoefficients 80 = .ok (.istore 5, 2) := by decide +kernel
theorem dX8_readCoefficients_82 : decode cX8_readCoefficients 82 = .ok (.iload 4, 2) := by decide +kernel
theorem dX8_readCoefficients_84 : decode cX8_readCoefficients 84 = .ok (.ifCond .eq 137, 3) := by decide +kernel
theorem dX8_readCoefficients_87 : decode cX8_readCoefficients 87 = .ok (.iload_n 3, 1) := by decide +kernel
theorem dX8_readCoefficients_88 : decode cX8_readCoefficients 88 = .ok (.bipush 16, 2) := by decide +kernel
theorem dX8_readCoefficients_90 : decode cX8_readCoefficients 90 = .ok (.if_icmp .ge 131, 3) := by decide +kernel
theorem dX8_readCoefficients_93 : decode cX8_readCoefficients 93 = .ok (.bipush 11, 2) := by decide +kernel
theorem dX8_readCoefficients_95 : decode cX8_readCoefficients 95 = .ok (.iconst 3, 1) := by decide +kernel
theorem dX8_readCoefficients_96 : decode cX8_readCoefficients 96 = .ok (.iload_n 3, 1) := by decide +kernel
theorem dX8_readCoefficients_97 : decode cX8_readCoefficients 97 = .ok (.invokestatic 130, 3) := by decide +kernel
theorem dX8_readCoefficients_100 : decode cX8_readCoefficients 100 = .ok (.imul, 1) := by decide +kernel
theorem dX8_readCoefficients_101 : decode cX8_readCoefficients 101 = .ok (.iload_n 2, 1) := by decide +kernel
theorem dX8_readCoefficients_102 : decode cX8_readCoefficients 102 = .ok (.iadd, 1) := by decide +kernel
theorem dX8_readCoefficients_103 : decode cX8_readCoefficients 103 = .ok (.imul, 1) := by decide +kernel
theorem dX8_readCoefficients_104 : decode cX8_readCoefficients 104 = .ok (.istore 6, 2) := by decide +kernel
theorem dX8_readCoefficients_106 : decode cX8_readCoefficients 106 = .ok (.iload 5, 2) := by decide +kernel
theorem dX8_readCoefficients_108 : decode cX8_readCoefficients 108 = .ok (.ifCond .ne 14, 3) := by decide +kernel
theorem dX8_readCoefficients_111 : decode cX8_readCoefficients 111 = .ok (.aload_n 0, 1) := by decide +kernel
theorem dX8_readCoefficients_112 : decode cX8_readCoefficients 112 = .ok (.iload 6, 2) := by decide +kernel
theorem dX8_readCoefficients_114 : decode cX8_readCoefficients 114 = .ok (.iconst 0, 1) := by decide +kernel
theorem dX8_readCoefficients_115 : decode cX8_readCoefficients 115 = .ok (.invokevirtual 101, 3) := by decide +kernel
theorem dX8_readCoefficients_118 : decode cX8_readCoefficients 118 = .ok (.iconst 1, 1) := by decide +kernel
theorem dX8_readCoefficients_119 : decode cX8_readCoefficients 119 = .ok (.if_icmp .ne 7, 3) := by decide +kernel
theorem dX8_readCoefficients_122 : decode cX8_readCoefficients 122 = .ok (.iconst 1, 1) := by decide +kernel
theorem dX8_readCoefficients_123 : decode cX8_readCoefficients 123 = .ok (.goto 4, 3) := by decide +kernel
theorem dX8_readCoefficients_126 : decode cX8_readCoefficients 126 = .ok (.iconst 0, 1) := by decide +kernel
theorem dX8_readCoefficients_127 : decode cX8_readCoefficients 127 = .ok (.istore 4, 2) := by decide +kernel
theorem dX8_readCoefficients_129 : decode cX8_readCoefficients 129 = .ok (.iload 4, 2) := by decide +kernel
theorem dX8_readCoefficients_131 : decode cX8_readCoefficients 131 = .ok (.ifCond .eq 87, 3) := by decide +kernel
theorem dX8_readCoefficients_134 : decode cX8_readCoefficients 134 = .ok (.aload_n 0, 1) := by decide +kernel
theorem dX8_readCoefficients_135 : decode cX8_readCoefficients 135 = .ok (.iload 6, 2) := by decide +kernel
theorem dX8_readCoefficients_137 : decode cX8_readCoefficients 137 = .ok (.iconst 1, 1) := by decide +kernel
theorem dX8_readCoefficients_138 : decode cX8_readCoefficients 138 = .ok (.invokevirtual 101, 3) := by decide +kernel
theorem dX8_readCoefficients_141 : decode cX8_readCoefficients 141 = .ok (.ifCond .ne 7, 3) := by decide +kernel
theorem dX8_readCoefficients_144 : decode cX8_readCoefficients 144 = .ok (.iconst 0, 1) := by decide +kernel
theorem dX8_readCoefficients_145 : decode cX8_readCoefficients 145 = .ok (.goto 9, 3) := by decide +kernel
theorem dX8_readCoefficients_148 : decode cX8_readCoefficients 148 = .ok (.aload_n 0, 1) := by decide +kernel
theorem dX8_readCoefficients_149 : decode cX8_readCoefficients 149 = .ok (.iload 6, 2) := by decide +kernel
theorem dX8_readCoefficients_151 : decode cX8_readCoefficients 151 = .ok (.invokevirtual 133, 3) := by decide +kernel
theorem dX8_readCoefficients_154 : decode cX8_readCoefficients 154 = .ok (.istore 7, 2) := by decide +kernel
theorem dX8_readCoefficients_156 : decode cX8_readCoefficients 156 = .ok (.iload 7, 2) := by decide +kernel
theorem dX8_readCoefficients_158 : decode cX8_readCoefficients 158 = .ok (.iconst 1, 1) := by decide +kernel
theorem dX8_readCoefficients_159 : decode cX8_readCoefficients 159 = .ok (.if_icmp .le 7, 3) := by decide +kernel
theorem dX8_readCoefficients_162 : decode cX8_readCoefficients 162 = .ok (.iconst 2, 1) := by decide +kernel
theorem dX8_readCoefficients_163 : decode cX8_readCoefficients 163 = .ok (.goto 5, 3) := by decide +kernel
theorem dX8_readCoefficients_166 : decode cX8_readCoefficients 166 = .ok (.iload 7, 2) := by decide +kernel
theorem dX8_readCoefficients_168 : decode cX8_readCoefficients 168 = .ok (.istore_n 2, 1) := by decide +kernel
theorem dX8_readCoefficients_169 : decode cX8_readCoefficients 169 = .ok (.iload 7, 2) := by decide +kernel
theorem dX8_readCoefficients_171 : decode cX8_readCoefficients 171 = .ok (.ifCond .ne 7, 3) := by decide +kernel
theorem dX8_readCoefficients_174 : decode cX8_readCoefficients 174 = .ok (.iconst 1, 1) := by decide +kernel
theorem dX8_readCoefficients_175 : decode cX8_readCoefficients 175 = .ok (.goto 4, 3) := by decide +kernel
theorem dX8_readCoefficients_178 : decode cX8_readCoefficients 178 = .ok (.iconst 0, 1) := by decide +kernel
theorem dX8_readCoefficients_179 : decode cX8_readCoefficients 179 = .ok (.istore 5, 2) := by decide +kernel
theorem dX8_readCoefficients_181 : decode cX8_readCoefficients 181 = .ok (.iload 7, 2) := by decide +kernel
theorem dX8_readCoefficients_183 : decode cX8_readCoefficients 183 = .ok (.ifCond .le 19, 3) := by decide +kernel
theorem dX8_readCoefficients_186 : decode cX8_readCoefficients 186 = .ok (.aload_n 0, 1) := by decide +kernel
theorem dX8_readCoefficients_187 : decode cX8_readCoefficients 187 = .ok (.sipush 128, 3) := by decide +kernel
theorem dX8_readCoefficients_190 : decode cX8_readCoefficients 190 = .ok (.invokevirtual 94, 3) := by decide +kernel
theorem dX8_readCoefficients_193 : decode cX8_readCoefficients 193 = .ok (.iconst 1, 1) := by decide +kernel
theorem dX8_readCoefficients_194 : decode cX8_readCoefficients 194 = .ok (.if_icmp .ne 8, 3) := by decide +kernel
theorem dX8_readCoefficients_197 : decode cX8_readCoefficients 197 = .ok (.iload 7, 2) := by decide +kernel
theorem dX8_readCoefficients_199 : decode cX8_readCoefficients 199 = .ok (.ineg, 1) := by decide +kernel
theorem dX8_readCoefficients_200 : decode cX8_readCoefficients 200 = .ok (.istore 7, 2) := by decide +kernel
theorem dX8_readCoefficients_202 : decode cX8_readCoefficients 202 = .ok (.aload_n 0, 1) := by decide +kernel
theorem dX8_readCoefficients_203 : decode cX8_readCoefficients 203 = .ok (.getfield 22, 3) := by decide +kernel
theorem dX8_readCoefficients_206 : decode cX8_readCoefficients 206 = .ok (.bipush 16, 2) := by decide +kernel
theorem dX8_readCoefficients_208 : decode cX8_readCoefficients 208 = .ok (.iload_n 1, 1) := by decide +kernel
theorem dX8_readCoefficients_209 : decode cX8_readCoefficients 209 = .ok (.imul, 1) := by decide +kernel
theorem dX8_readCoefficients_210 : decode cX8_readCoefficients 210 = .ok (.iload_n 3, 1) := by decide +kernel
theorem dX8_readCoefficients_211 : decode cX8_readCoefficients 211 = .ok (.iadd, 1) := by decide +kernel
theorem dX8_readCoefficients_212 : decode cX8_readCoefficients 212 = .ok (.iload 7, 2) := by decide +kernel
theorem dX8_readCoefficients_214 : decode cX8_readCoefficients 214 = .ok (.iastore, 1) := by decide +kernel
theorem dX8_readCoefficients_215 : decode cX8_readCoefficients 215 = .ok (.iinc 3 1, 3) := by decide +kernel
theorem dX8_readCoefficients_218 : decode cX8_readCoefficients 218 = .ok (.goto (-136), 3) := by decide +kernel
theorem dX8_readCoefficients_221 : decode cX8_readCoefficients 221 = .ok (.aload_n 0, 1) := by decide +kernel
theorem dX8_readCoefficients_222 : decode cX8_readCoefficients 222 = .ok (.getfield 19, 3) := by decide +kernel
theorem dX8_readCoefficients_225 : decode cX8_readCoefficients 225 = .ok (.iload_n 1, 1) := by decide +kernel
theorem dX8_readCoefficients_226 : decode cX8_readCoefficients 226 = .ok (.iload_n 3, 1) := by decide +kernel
theorem dX8_readCoefficients_227 : decode cX8_readCoefficients 227 = .ok (.iastore, 1) := by decide +kernel
theorem dX8_readCoefficients_228 : decode cX8_readCoefficients 228 = .ok (.return_, 1) := by decide +kernel
theorem dX8_whole_0 : decode cX8_whole 0 = .ok (.lload_n 0, 1) := by decide +kernel
theorem dX8_whole_1 : decode cX8_whole 1 = .ok (.lload_n 0, 1) := by decide +kernel
theorem dX8_whole_2 : decode cX8_whole 2 = .ok (.ldc2_w 136, 3) := by decide +kernel
theorem dX8_whole_5 : decode cX8_whole 5 = .ok (.lmul, 1) := by decide +kernel
theorem dX8_whole_6 : decode cX8_whole 6 = .ok (.bipush 16, 2) := by decide +kernel
theorem dX8_whole_8 : decode cX8_whole 8 = .ok (.lshr, 1) := by decide +kernel
theorem dX8_whole_9 : decode cX8_whole 9 = .ok (.ladd, 1) := by decide +kernel
theorem dX8_whole_10 : decode cX8_whole 10 = .ok (.lreturn, 1) := by decide +kernel
theorem dX8_half_0 : decode cX8_half 0 = .ok (.lload_n 0, 1) := by decide +kernel
theorem dX8_half_1 : decode cX8_half 1 = .ok (.ldc2_w 138, 3) := by decide +kernel
theorem dX8_half_4 : decode cX8_half 4 = .ok (.lmul, 1) := by decide +kernel
theorem dX8_half_5 : decode cX8_half 5 = .ok (.bipush 16, 2) := by decide +kernel
theorem dX8_half_7 : decode cX8_half 7 = .ok (.lshr, 1) := by decide +kernel
theorem dX8_half_8 : decode cX8_half 8 = .ok (.lreturn, 1) := by decide +kernel
theorem dX8_turn_0 : decode cX8_turn 0 = .ok (.aload_n 0, 1) := by decide +kernel
theorem dX8_turn_1 : decode cX8_turn 1 = .ok (.getfield 28, 3) := by decide +kernel
theorem dX8_turn_4 : decode cX8_turn 4 = .ok (.iload_n 1, 1) := by decide +kernel
theorem dX8_turn_5 : decode cX8_turn 5 = .ok (.laload, 1) := by decide +kernel
theorem dX8_turn_6 : decode cX8_turn 6 = .ok (.lstore_n 3, 1) := by decide +kernel
theorem dX8_turn_7 : decode cX8_turn 7 = .ok (.aload_n 0, 1) := by decide +kernel
theorem dX8_turn_8 : decode cX8_turn 8 = .ok (.getfield 28, 3) := by decide +kernel
theorem dX8_turn_11 : decode cX8_turn 11 = .ok (.iload_n 1, 1) := by decide +kernel
theorem dX8_turn_12 : decode cX8_turn 12 = .ok (.iload_n 2, 1) := by decide +kernel
theorem dX8_turn_13 : decode cX8_turn 13 = .ok (.iadd, 1) := by decide +kernel
theorem dX8_turn_14 : decode cX8_turn 14 = .ok (.laload, 1) := by decide +kernel
theorem dX8_turn_15 : decode cX8_turn 15 = .ok (.lstore 5, 2) := by decide +kernel
theorem dX8_turn_17 : decode cX8_turn 17 = .ok (.aload_n 0, 1) := by decide +kernel
theorem dX8_turn_18 : decode cX8_turn 18 = .ok (.getfield 28, 3) := by decide +kernel
theorem dX8_turn_21 : decode cX8_turn 21 = .ok (.iload_n 1, 1) := by decide +kernel
theorem dX8_turn_22 : decode cX8_turn 22 = .ok (.iconst 2, 1) := by decide +kernel
theorem dX8_turn_23 : decode cX8_turn 23 = .ok (.iload_n 2, 1) := by decide +kernel
theorem dX8_turn_24 : decode cX8_turn 24 = .ok (.imul, 1) := by decide +kernel
theorem dX8_turn_25 : decode cX8_turn 25 = .ok (.iadd, 1) := by decide +kernel
theorem dX8_turn_26 : decode cX8_turn 26 = .ok (.laload, 1) := by decide +kernel
theorem dX8_turn_27 : decode cX8_turn 27 = .ok (.lstore 7, 2) := by decide +kernel
theorem dX8_turn_29 : decode cX8_turn 29 = .ok (.aload_n 0, 1) := by decide +kernel
theorem dX8_turn_30 : decode cX8_turn 30 = .ok (.getfield 28, 3) := by decide +kernel
theorem dX8_turn_33 : decode cX8_turn 33 = .ok (.iload_n 1, 1) := by decide +kernel
theorem dX8_turn_34 : decode cX8_turn 34 = .ok (.iconst 3, 1) := by decide +kernel
theorem dX8_turn_35 : decode cX8_turn 35 = .ok (.iload_n 2, 1) := by decide +kernel
theorem dX8_turn_36 : decode cX8_turn 36 = .ok (.imul, 1) := by decide +kernel
theorem dX8_turn_37 : decode cX8_turn 37 = .ok (.iadd, 1) := by decide +kernel
theorem dX8_turn_38 : decode cX8_turn 38 = .ok (.laload, 1) := by decide +kernel
theorem dX8_turn_39 : decode cX8_turn 39 = .ok (.lstore 9, 2) := by decide +kernel
theorem dX8_turn_41 : decode cX8_turn 41 = .ok (.lload_n 3, 1) := by decide +kernel
theorem dX8_turn_42 : decode cX8_turn 42 = .ok (.lload 7, 2) := by decide +kernel
theorem dX8_turn_44 : decode cX8_turn 44 = .ok (.ladd, 1) := by decide +kernel
theorem dX8_turn_45 : decode cX8_turn 45 = .ok (.lstore 11, 2) := by decide +kernel
theorem dX8_turn_47 : decode cX8_turn 47 = .ok (.lload_n 3, 1) := by decide +kernel
theorem dX8_turn_48 : decode cX8_turn 48 = .ok (.lload 7, 2) := by decide +kernel
theorem dX8_turn_50 : decode cX8_turn 50 = .ok (.lsub, 1) := by decide +kernel
theorem dX8_turn_51 : decode cX8_turn 51 = .ok (.lstore 13, 2) := by decide +kernel
theorem dX8_turn_53 : decode cX8_turn 53 = .ok (.lload 5, 2) := by decide +kernel
theorem dX8_turn_55 : decode cX8_turn 55 = .ok (.invokestatic 140, 3) := by decide +kernel
theorem dX8_turn_58 : decode cX8_turn 58 = .ok (.lload 9, 2) := by decide +kernel
theorem dX8_turn_60 : decode cX8_turn 60 = .ok (.invokestatic 144, 3) := by decide +kernel
theorem dX8_turn_63 : decode cX8_turn 63 = .ok (.lsub, 1) := by decide +kernel
theorem dX8_turn_64 : decode cX8_turn 64 = .ok (.lstore 15, 2) := by decide +kernel
theorem dX8_turn_66 : decode cX8_turn 66 = .ok (.lload 5, 2) := by decide +kernel
theorem dX8_turn_68 : decode cX8_turn 68 = .ok (.invokestatic 144, 3) := by decide +kernel
theorem dX8_turn_71 : decode cX8_turn 71 = .ok (.lload 9, 2) := by decide +kernel
theorem dX8_turn_73 : decode cX8_turn 73 = .ok (.invokestatic 140, 3) := by decide +kernel
theorem dX8_turn_76 : decode cX8_turn 76 = .ok (.ladd, 1) := by decide +kernel
theorem dX8_turn_77 : decode cX8_turn 77 = .ok (.lstore 17, 2) := by decide +kernel
theorem dX8_turn_79 : decode cX8_turn 79 = .ok (.aload_n 0, 1) := by decide +kernel
theorem dX8_turn_80 : decode cX8_turn 80 = .ok (.getfield 28, 3) := by decide +kernel
theorem dX8_turn_83 : decode cX8_turn 83 = .ok (.iload_n 1, 1) := by decide +kernel
theorem dX8_turn_84 : decode cX8_turn 84 = .ok (.lload 11, 2) := by decide +kernel
theorem dX8_turn_86 : decode cX8_turn 86 = .ok (.lload 17, 2) := by decide +kernel
theorem dX8_turn_88 : decode cX8_turn 88 = .ok (.ladd, 1) := by decide +kernel
theorem dX8_turn_89 : decode cX8_turn 89 = .ok (.lastore, 1) := by decide +kernel
theorem dX8_turn_90 : decode cX8_turn 90 = .ok (.aload_n 0, 1) := by decide +kernel
theorem dX8_turn_91 : decode cX8_turn 91 = .ok (.getfield 28, 3) := by decide +kernel
theorem dX8_turn_94 : decode cX8_turn 94 = .ok (.iload_n 1, 1) := by decide +kernel
theorem dX8_turn_95 : decode cX8_turn 95 = .ok (.iload_n 2, 1) := by decide +kernel
theorem dX8_turn_96 : decode cX8_turn 96 = .ok (.iadd, 1) := by decide +kernel
theorem dX8_turn_97 : decode cX8_turn 97 = .ok (.lload 13, 2) := by decide +kernel
theorem dX8_turn_99 : decode cX8_turn 99 = .ok (.lload 15, 2) := by decide +kernel
theorem dX8_turn_101 : decode cX8_turn 101 = .ok (.ladd, 1) := by decide +kernel
theorem dX8_turn_102 : decode cX8_turn 102 = .ok (.lastore, 1) := by decide +kernel
theorem dX8_turn_103 : decode cX8_turn 103 = .ok (.aload_n 0, 1) := by decide +kernel
theorem dX8_turn_104 : decode cX8_turn 104 = .ok (.getfield 28, 3) := by decide +kernel
theorem dX8_turn_107 : decode cX8_turn 107 = .ok (.iload_n 1, 1) := by decide +kernel
theorem dX8_turn_108 : decode cX8_turn 108 = .ok (.iconst 2, 1) := by decide +kernel
theorem dX8_turn_109 : decode cX8_turn 109 = .ok (.iload_n 2, 1) := by decide +kernel
theorem dX8_turn_110 : decode cX8_turn 110 = .ok (.imul, 1) := by decide +kernel
theorem dX8_turn_111 : decode cX8_turn 111 = .ok (.iadd, 1) := by decide +kernel
theorem dX8_turn_112 : decode cX8_turn 112 = .ok (.lload 13, 2) := by decide +kernel
theorem dX8_turn_114 : decode cX8_turn 114 = .ok (.lload 15, 2) := by decide +kernel
theorem dX8_turn_116 : decode cX8_turn 116 = .ok (.lsub, 1) := by decide +kernel
theorem dX8_turn_117 : decode cX8_turn 117 = .ok (.lastore, 1) := by decide +kernel
theorem dX8_turn_118 : decode cX8_turn 118 = .ok (.aload_n 0, 1) := by decide +kernel
theorem dX8_turn_119 : decode cX8_turn 119 = .ok (.getfield 28, 3) := by decide +kernel
theorem dX8_turn_122 : decode cX8_turn 122 = .ok (.iload_n 1, 1) := by decide +kernel
theorem dX8_turn_123 : decode cX8_turn 123 = .ok (.iconst 3, 1) := by decide +kernel
theorem dX8_turn_124 : decode cX8_turn 124 = .ok (.iload_n 2, 1) := by decide +kernel
theorem dX8_turn_125 : decode cX8_turn 125 = .ok (.imul, 1) := by decide +kernel
theorem dX8_turn_126 : decode cX8_turn 126 = .ok (.iadd, 1) := by decide +kernel
theorem dX8_turn_127 : decode cX8_turn 127 = .ok (.lload 11, 2) := by decide +kernel
theorem dX8_turn_129 : decode cX8_turn 129 = .ok (.lload 17, 2) := by decide +kernel
theorem dX8_turn_131 : decode cX8_turn 131 = .ok (.lsub, 1) := by decide +kernel
theorem dX8_turn_132 : decode cX8_turn 132 = .ok (.lastore, 1) := by decide +kernel
theorem dX8_turn_133 : decode cX8_turn 133 = .ok (.return_, 1) := by decide +kernel
theorem dX8_transform_0 : decode cX8_transform 0 = .ok (.iconst 0, 1) := by decide +kernel
theorem dX8_transform_1 : decode cX8_transform 1 = .ok (.istore_n 2, 1) := by decide +kernel
theorem dX8_transform_2 : decode cX8_transform 2 = .ok (.iload_n 2, 1) := by decide +kernel
theorem dX8_transform_3 : decode cX8_transform 3 = .ok (.bipush 16, 2) := by decide +kernel
theorem dX8_transform_5 : decode cX8_transform 5 = .ok (.if_icmp .ge 61, 3) := by decide +kernel
theorem dX8_transform_8 : decode cX8_transform 8 = .ok (.iload_n 2, 1) := by decide +kernel
theorem dX8_transform_9 : decode cX8_transform 9 = .ok (.ifCond .ne 13, 3) := by decide +kernel
theorem dX8_transform_12 : decode cX8_transform 12 = .ok (.iconst 4, 1) := by decide +kernel
theorem dX8_transform_13 : decode cX8_transform 13 = .ok (.aload_n 0, 1) := by decide +kernel
theorem dX8_transform_14 : decode cX8_transform 14 = .ok (.getfield 147, 3) := by decide +kernel
theorem dX8_transform_17 : decode cX8_transform 17 = .ok (.iadd, 1) := by decide +kernel
theorem dX8_transform_18 : decode cX8_transform 18 = .ok (.i2l, 1) := by decide +kernel
theorem dX8_transform_19 : decode cX8_transform 19 = .ok (.goto 17, 3) := by decide +kernel
theorem dX8_transform_22 : decode cX8_transform 22 = .ok (.iconst 4, 1) := by decide +kernel
theorem dX8_transform_23 : decode cX8_transform 23 = .ok (.aload_n 0, 1) := by decide +kernel
theorem dX8_transform_24 : decode cX8_transform 24 = .ok (.getfield 147, 3) := by decide +kernel
theorem dX8_transform_27 : decode cX8_transform 27 = .ok (.iadd, 1) := by decide +kernel
theorem dX8_transform_28 : decode cX8_transform 28 = .ok (.aload_n 0, 1) := by decide +kernel
theorem dX8_transform_29 : decode cX8_transform 29 = .ok (.getfield 147, 3) := by decide +kernel
theorem dX8_transform_32 : decode cX8_transform 32 = .ok (.iconst 2, 1) := by decide +kernel
theorem dX8_transform_33 : decode cX8_transform 33 = .ok (.idiv, 1) := by decide +kernel
theorem dX8_transform_34 : decode cX8_transform 34 = .ok (.iadd, 1) := by decide +kernel
theorem dX8_transform_35 : decode cX8_transform 35 = .ok (.i2l, 1) := by decide +kernel
theorem dX8_transform_36 : decode cX8_transform 36 = .ok (.lstore_n 3, 1) := by decide +kernel
theorem dX8_transform_37 : decode cX8_transform 37 = .ok (.aload_n 0, 1) := by decide +kernel
theorem dX8_transform_38 : decode cX8_transform 38 = .ok (.getfield 28, 3) := by decide +kernel
theorem dX8_transform_41 : decode cX8_transform 41 = .ok (.iload_n 2, 1) := by decide +kernel
theorem dX8_transform_42 : decode cX8_transform 42 = .ok (.invokestatic 150, 3) := by decide +kernel
theorem dX8_transform_45 : decode cX8_transform 45 = .ok (.aload_n 0, 1) := by decide +kernel
theorem dX8_transform_46 : decode cX8_transform 46 = .ok (.getfield 22, 3) := by decide +kernel
theorem dX8_transform_49 : decode cX8_transform 49 = .ok (.bipush 16, 2) := by decide +kernel
theorem dX8_transform_51 : decode cX8_transform 51 = .ok (.iload_n 1, 1) := by decide +kernel
theorem dX8_transform_52 : decode cX8_transform 52 = .ok (.imul, 1) := by decide +kernel
theorem dX8_transform_53 : decode cX8_transform 53 = .ok (.iload_n 2, 1) := by decide +kernel
theorem dX8_transform_54 : decode cX8_transform 54 = .ok (.iadd, 1) := by decide +kernel
theorem dX8_transform_55 : decode cX8_transform 55 = .ok (.iaload, 1) := by decide +kernel
theorem dX8_transform_56 : decode cX8_transform 56 = .ok (.i2l, 1) := by decide +kernel
theorem dX8_transform_57 : decode cX8_transform 57 = .ok (.lload_n 3, 1) := by decide +kernel
theorem dX8_transform_58 : decode cX8_transform 58 = .ok (.lmul, 1) := by decide +kernel
theorem dX8_transform_59 : decode cX8_transform 59 = .ok (.lastore, 1) := by decide +kernel
theorem dX8_transform_60 : decode cX8_transform 60 = .ok (.iinc 2 1, 3) := by decide +kernel
theorem dX8_transform_63 : decode cX8_transform 63 = .ok (.goto (-61), 3) := by decide +kernel
theorem dX8_transform_66 : decode cX8_transform 66 = .ok (.iconst 0, 1) := by decide +kernel
theorem dX8_transform_67 : decode cX8_transform 67 = .ok (.istore_n 2, 1) := by decide +kernel
theorem dX8_transform_68 : decode cX8_transform 68 = .ok (.iload_n 2, 1) := by decide +kernel
theorem dX8_transform_69 : decode cX8_transform 69 = .ok (.iconst 4, 1) := by decide +kernel
theorem dX8_transform_70 : decode cX8_transform 70 = .ok (.if_icmp .ge 15, 3) := by decide +kernel
theorem dX8_transform_73 : decode cX8_transform 73 = .ok (.aload_n 0, 1) := by decide +kernel
theorem dX8_transform_74 : decode cX8_transform 74 = .ok (.iload_n 2, 1) := by decide +kernel
theorem dX8_transform_75 : decode cX8_transform 75 = .ok (.iconst 4, 1) := by decide +kernel
theorem dX8_transform_76 : decode cX8_transform 76 = .ok (.invokevirtual 153, 3) := by decide +kernel
theorem dX8_transform_79 : decode cX8_transform 79 = .ok (.iinc 2 1, 3) := by decide +kernel
theorem dX8_transform_82 : decode cX8_transform 82 = .ok (.goto (-14), 3) := by decide +kernel
theorem dX8_transform_85 : decode cX8_transform 85 = .ok (.iconst 0, 1) := by decide +kernel
theorem dX8_transform_86 : decode cX8_transform 86 = .ok (.istore_n 2, 1) := by decide +kernel
theorem dX8_transform_87 : decode cX8_transform 87 = .ok (.iload_n 2, 1) := by decide +kernel
theorem dX8_transform_88 : decode cX8_transform 88 = .ok (.iconst 4, 1) := by decide +kernel
theorem dX8_transform_89 : decode cX8_transform 89 = .ok (.if_icmp .ge 17, 3) := by decide +kernel
theorem dX8_transform_92 : decode cX8_transform 92 = .ok (.aload_n 0, 1) := by decide +kernel
theorem dX8_transform_93 : decode cX8_transform 93 = .ok (.iconst 4, 1) := by decide +kernel
theorem dX8_transform_94 : decode cX8_transform 94 = .ok (.iload_n 2, 1) := by decide +kernel
theorem dX8_transform_95 : decode cX8_transform 95 = .ok (.imul, 1) := by decide +kernel
theorem dX8_transform_96 : decode cX8_transform 96 = .ok (.iconst 1, 1) := by decide +kernel
theorem dX8_transform_97 : decode cX8_transform 97 = .ok (.invokevirtual 153, 3) := by decide +kernel
theorem dX8_transform_100 : decode cX8_transform 100 = .ok (.iinc 2 1, 3) := by decide +kernel
theorem dX8_transform_103 : decode cX8_transform 103 = .ok (.goto (-16), 3) := by decide +kernel
theorem dX8_transform_106 : decode cX8_transform 106 = .ok (.iconst 0, 1) := by decide +kernel
theorem dX8_transform_107 : decode cX8_transform 107 = .ok (.istore_n 2, 1) := by decide +kernel
theorem dX8_transform_108 : decode cX8_transform 108 = .ok (.iload_n 2, 1) := by decide +kernel
theorem dX8_transform_109 : decode cX8_transform 109 = .ok (.bipush 16, 2) := by decide +kernel
theorem dX8_transform_111 : decode cX8_transform 111 = .ok (.if_icmp .ge 27, 3) := by decide +kernel
theorem dX8_transform_114 : decode cX8_transform 114 = .ok (.aload_n 0, 1) := by decide +kernel
theorem dX8_transform_115 : decode cX8_transform 115 = .ok (.getfield 28, 3) := by decide +kernel
theorem dX8_transform_118 : decode cX8_transform 118 = .ok (.iload_n 2, 1) := by decide +kernel
theorem dX8_transform_119 : decode cX8_transform 119 = .ok (.aload_n 0, 1) := by decide +kernel
theorem dX8_transform_120 : decode cX8_transform 120 = .ok (.getfield 28, 3) := by decide +kernel
theorem dX8_transform_123 : decode cX8_transform 123 = .ok (.iload_n 2, 1) := by decide +kernel
theorem dX8_transform_124 : decode cX8_transform 124 = .ok (.laload, 1) := by decide +kernel
theorem dX8_transform_125 : decode cX8_transform 125 = .ok (.ldc2_w 156, 3) := by decide +kernel
theorem dX8_transform_128 : decode cX8_transform 128 = .ok (.ladd, 1) := by decide +kernel
theorem dX8_transform_129 : decode cX8_transform 129 = .ok (.iconst 3, 1) := by decide +kernel
theorem dX8_transform_130 : decode cX8_transform 130 = .ok (.lshr, 1) := by decide +kernel
theorem dX8_transform_131 : decode cX8_transform 131 = .ok (.lastore, 1) := by decide +kernel
theorem dX8_transform_132 : decode cX8_transform 132 = .ok (.iinc 2 1, 3) := by decide +kernel
theorem dX8_transform_135 : decode cX8_transform 135 = .ok (.goto (-27), 3) := by decide +kernel
theorem dX8_transform_138 : decode cX8_transform 138 = .ok (.return_, 1) := by decide +kernel
theorem dX8_at_0 : decode cX8_at 0 = .ok (.iload_n 2, 1) := by decide +kernel
theorem dX8_at_1 : decode cX8_at 1 = .ok (.ifCond .ge 8, 3) := by decide +kernel
theorem dX8_at_4 : decode cX8_at 4 = .ok (.bipush 127, 2) := by decide +kernel
theorem dX8_at_6 : decode cX8_at 6 = .ok (.goto 24, 3) := by decide +kernel
theorem dX8_at_9 : decode cX8_at 9 = .ok (.iload_n 1, 1) := by decide +kernel
theorem dX8_at_10 : decode cX8_at 10 = .ok (.ifCond .ge 9, 3) := by decide +kernel
theorem dX8_at_13 : decode cX8_at 13 = .ok (.sipush 129, 3) := by decide +kernel
theorem dX8_at_16 : decode cX8_at 16 = .ok (.goto 14, 3) := by decide +kernel
theorem dX8_at_19 : decode cX8_at 19 = .ok (.aload_n 0, 1) := by decide +kernel
theorem dX8_at_20 : decode cX8_at 20 = .ok (.getfield 25, 3) := by decide +kernel
theorem dX8_at_23 : decode cX8_at 23 = .ok (.bipush 16, 2) := by decide +kernel
theorem dX8_at_25 : decode cX8_at 25 = .ok (.iload_n 2, 1) := by decide +kernel
theorem dX8_at_26 : decode cX8_at 26 = .ok (.imul, 1) := by decide +kernel
theorem dX8_at_27 : decode cX8_at 27 = .ok (.iload_n 1, 1) := by decide +kernel
theorem dX8_at_28 : decode cX8_at 28 = .ok (.iadd, 1) := by decide +kernel
theorem dX8_at_29 : decode cX8_at 29 = .ok (.iaload, 1) := by decide +kernel
theorem dX8_at_30 : decode cX8_at 30 = .ok (.ireturn, 1) := by decide +kernel
theorem dX8_byteOf_0 : decode cX8_byteOf 0 = .ok (.lload_n 0, 1) := by decide +kernel
theorem dX8_byteOf_1 : decode cX8_byteOf 1 = .ok (.lconst 0, 1) := by decide +kernel
theorem dX8_byteOf_2 : decode cX8_byteOf 2 = .ok (.lcmp, 1) := by decide +kernel
theorem dX8_byteOf_3 : decode cX8_byteOf 3 = .ok (.ifCond .ge 7, 3) := by decide +kernel
theorem dX8_byteOf_6 : decode cX8_byteOf 6 = .ok (.iconst 0, 1) := by decide +kernel
theorem dX8_byteOf_7 : decode cX8_byteOf 7 = .ok (.goto 19, 3) := by decide +kernel
theorem dX8_byteOf_10 : decode cX8_byteOf 10 = .ok (.lload_n 0, 1) := by decide +kernel
theorem dX8_byteOf_11 : decode cX8_byteOf 11 = .ok (.ldc2_w 60, 3) := by decide +kernel
theorem dX8_byteOf_14 : decode cX8_byteOf 14 = .ok (.lcmp, 1) := by decide +kernel
theorem dX8_byteOf_15 : decode cX8_byteOf 15 = .ok (.ifCond .le 9, 3) := by decide +kernel
theorem dX8_byteOf_18 : decode cX8_byteOf 18 = .ok (.sipush 255, 3) := by decide +kernel
theorem dX8_byteOf_21 : decode cX8_byteOf 21 = .ok (.goto 5, 3) := by decide +kernel
theorem dX8_byteOf_24 : decode cX8_byteOf 24 = .ok (.lload_n 0, 1) := by decide +kernel
theorem dX8_byteOf_25 : decode cX8_byteOf 25 = .ok (.l2i, 1) := by decide +kernel
theorem dX8_byteOf_26 : decode cX8_byteOf 26 = .ok (.ireturn, 1) := by decide +kernel
theorem dX8_guess_0 : decode cX8_guess 0 = .ok (.aload_n 0, 1) := by decide +kernel
theorem dX8_guess_1 : decode cX8_guess 1 = .ok (.iload_n 2, 1) := by decide +kernel
theorem dX8_guess_2 : decode cX8_guess 2 = .ok (.iload 4, 2) := by decide +kernel
theorem dX8_guess_4 : decode cX8_guess 4 = .ok (.iadd, 1) := by decide +kernel
theorem dX8_guess_5 : decode cX8_guess 5 = .ok (.iload_n 3, 1) := by decide +kernel
theorem dX8_guess_6 : decode cX8_guess 6 = .ok (.iconst 1, 1) := by decide +kernel
theorem dX8_guess_7 : decode cX8_guess 7 = .ok (.isub, 1) := by decide +kernel
theorem dX8_guess_8 : decode cX8_guess 8 = .ok (.invokevirtual 158, 3) := by decide +kernel
theorem dX8_guess_11 : decode cX8_guess 11 = .ok (.istore 6, 2) := by decide +kernel
theorem dX8_guess_13 : decode cX8_guess 13 = .ok (.aload_n 0, 1) := by decide +kernel
theorem dX8_guess_14 : decode cX8_guess 14 = .ok (.iload_n 2, 1) := by decide +kernel
theorem dX8_guess_15 : decode cX8_guess 15 = .ok (.iconst 1, 1) := by decide +kernel
theorem dX8_guess_16 : decode cX8_guess 16 = .ok (.isub, 1) := by decide +kernel
theorem dX8_guess_17 : decode cX8_guess 17 = .ok (.iload_n 3, 1) := by decide +kernel
theorem dX8_guess_18 : decode cX8_guess 18 = .ok (.iload 5, 2) := by decide +kernel
theorem dX8_guess_20 : decode cX8_guess 20 = .ok (.iadd, 1) := by decide +kernel
theorem dX8_guess_21 : decode cX8_guess 21 = .ok (.invokevirtual 158, 3) := by decide +kernel
theorem dX8_guess_24 : decode cX8_guess 24 = .ok (.istore 7, 2) := by decide +kernel
theorem dX8_guess_26 : decode cX8_guess 26 = .ok (.iload_n 1, 1) := by decide +kernel
theorem dX8_guess_27 : decode cX8_guess 27 = .ok (.tableswitch 83 0 2 #[25, 77, 80], 25) := by decide +kernel
theorem dX8_guess_52 : decode cX8_guess 52 = .ok (.iconst 4, 1) := by decide +kernel
theorem dX8_guess_53 : decode cX8_guess 53 = .ok (.istore 8, 2) := by decide +kernel
theorem dX8_guess_55 : decode cX8_guess 55 = .ok (.iconst 0, 1) := by decide +kernel
theorem dX8_guess_56 : decode cX8_guess 56 = .ok (.istore 9, 2) := by decide +kernel
theorem dX8_guess_58 : decode cX8_guess 58 = .ok (.iload 9, 2) := by decide +kernel
theorem dX8_guess_60 : decode cX8_guess 60 = .ok (.iconst 4, 1) := by decide +kernel
theorem dX8_guess_61 : decode cX8_guess 61 = .ok (.if_icmp .ge 37, 3) := by decide +kernel
theorem dX8_guess_64 : decode cX8_guess 64 = .ok (.iload 8, 2) := by decide +kernel
theorem dX8_guess_66 : decode cX8_guess 66 = .ok (.aload_n 0, 1) := by decide +kernel
theorem dX8_guess_67 : decode cX8_guess 67 = .ok (.iload_n 2, 1) := by decide +kernel
theorem dX8_guess_68 : decode cX8_guess 68 = .ok (.iload 9, 2) := by decide +kernel
theorem dX8_guess_70 : decode cX8_guess 70 = .ok (.iadd, 1) := by decide +kernel
theorem dX8_guess_71 : decode cX8_guess 71 = .ok (.iload_n 3, 1) := by decide +kernel
theorem dX8_guess_72 : decode cX8_guess 72 = .ok (.iconst 1, 1) := by decide +kernel
theorem dX8_guess_73 : decode cX8_guess 73 = .ok (.isub, 1) := by decide +kernel
theorem dX8_guess_74 : decode cX8_guess 74 = .ok (.invokevirtual 158, 3) := by decide +kernel
theorem dX8_guess_77 : decode cX8_guess 77 = .ok (.iadd, 1) := by decide +kernel
theorem dX8_guess_78 : decode cX8_guess 78 = .ok (.aload_n 0, 1) := by decide +kernel
theorem dX8_guess_79 : decode cX8_guess 79 = .ok (.iload_n 2, 1) := by decide +kernel
theorem dX8_guess_80 : decode cX8_guess 80 = .ok (.iconst 1, 1) := by decide +kernel
theorem dX8_guess_81 : decode cX8_guess 81 = .ok (.isub, 1) := by decide +kernel
theorem dX8_guess_82 : decode cX8_guess 82 = .ok (.iload_n 3, 1) := by decide +kernel
theorem dX8_guess_83 : decode cX8_guess 83 = .ok (.iload 9, 2) := by decide +kernel
theorem dX8_guess_85 : decode cX8_guess 85 = .ok (.iadd, 1) := by decide +kernel
theorem dX8_guess_86 : decode cX8_guess 86 = .ok (.invokevirtual 158, 3) := by decide +kernel
theorem dX8_guess_89 : decode cX8_guess 89 = .ok (.iadd, 1) := by decide +kernel
theorem dX8_guess_90 : decode cX8_guess 90 = .ok (.istore 8, 2) := by decide +kernel
theorem dX8_guess_92 : decode cX8_guess 92 = .ok (.iinc 9 1, 3) := by decide +kernel
theorem dX8_guess_95 : decode cX8_guess 95 = .ok (.goto (-37), 3) := by decide +kernel
theorem dX8_guess_98 : decode cX8_guess 98 = .ok (.iload 8, 2) := by decide +kernel
theorem dX8_guess_100 : decode cX8_guess 100 = .ok (.bipush 8, 2) := by decide +kernel
theorem dX8_guess_102 : decode cX8_guess 102 = .ok (.idiv, 1) := by decide +kernel
theorem dX8_guess_103 : decode cX8_guess 103 = .ok (.ireturn, 1) := by decide +kernel
theorem dX8_guess_104 : decode cX8_guess 104 = .ok (.iload 6, 2) := by decide +kernel
theorem dX8_guess_106 : decode cX8_guess 106 = .ok (.ireturn, 1) := by decide +kernel
theorem dX8_guess_107 : decode cX8_guess 107 = .ok (.iload 7, 2) := by decide +kernel
theorem dX8_guess_109 : decode cX8_guess 109 = .ok (.ireturn, 1) := by decide +kernel
theorem dX8_guess_110 : decode cX8_guess 110 = .ok (.iload 7, 2) := by decide +kernel
theorem dX8_guess_112 : decode cX8_guess 112 = .ok (.iload 6, 2) := by decide +kernel
theorem dX8_guess_114 : decode cX8_guess 114 = .ok (.iadd, 1) := by decide +kernel
theorem dX8_guess_115 : decode cX8_guess 115 = .ok (.aload_n 0, 1) := by decide +kernel
theorem dX8_guess_116 : decode cX8_guess 116 = .ok (.iload_n 2, 1) := by decide +kernel
theorem dX8_guess_117 : decode cX8_guess 117 = .ok (.iconst 1, 1) := by decide +kernel
theorem dX8_guess_118 : decode cX8_guess 118 = .ok (.isub, 1) := by decide +kernel
theorem dX8_guess_119 : decode cX8_guess 119 = .ok (.iload_n 3, 1) := by decide +kernel
theorem dX8_guess_120 : decode cX8_guess 120 = .ok (.iconst 1, 1) := by decide +kernel
theorem dX8_guess_121 : decode cX8_guess 121 = .ok (.isub, 1) := by decide +kernel
theorem dX8_guess_122 : decode cX8_guess 122 = .ok (.invokevirtual 158, 3) := by decide +kernel
theorem dX8_guess_125 : decode cX8_guess 125 = .ok (.isub, 1) := by decide +kernel
theorem dX8_guess_126 : decode cX8_guess 126 = .ok (.i2l, 1) := by decide +kernel
theorem dX8_guess_127 : decode cX8_guess 127 = .ok (.invokestatic 161, 3) := by decide +kernel
theorem dX8_guess_130 : decode cX8_guess 130 = .ok (.ireturn, 1) := by decide +kernel
theorem dX8_build_0 : decode cX8_build 0 = .ok (.iconst 4, 1) := by decide +kernel
theorem dX8_build_1 : decode cX8_build 1 = .ok (.iload_n 1, 1) := by decide +kernel
theorem dX8_build_2 : decode cX8_build 2 = .ok (.aload_n 0, 1) := by decide +kernel
theorem dX8_build_3 : decode cX8_build 3 = .ok (.getfield 124, 3) := by decide +kernel
theorem dX8_build_6 : decode cX8_build 6 = .ok (.irem, 1) := by decide +kernel
theorem dX8_build_7 : decode cX8_build 7 = .ok (.imul, 1) := by decide +kernel
theorem dX8_build_8 : decode cX8_build 8 = .ok (.istore_n 2, 1) := by decide +kernel
theorem dX8_build_9 : decode cX8_build 9 = .ok (.iconst 4, 1) := by decide +kernel
theorem dX8_build_10 : decode cX8_build 10 = .ok (.iload_n 1, 1) := by decide +kernel
theorem dX8_build_11 : decode cX8_build 11 = .ok (.aload_n 0, 1) := by decide +kernel
theorem dX8_build_12 : decode cX8_build 12 = .ok (.getfield 124, 3) := by decide +kernel
theorem dX8_build_15 : decode cX8_build 15 = .ok (.idiv, 1) := by decide +kernel
theorem dX8_build_16 : decode cX8_build 16 = .ok (.imul, 1) := by decide +kernel
theorem dX8_build_17 : decode cX8_build 17 = .ok (.istore_n 3, 1) := by decide +kernel
theorem dX8_build_18 : decode cX8_build 18 = .ok (.aload_n 0, 1) := by decide +kernel
theorem dX8_build_19 : decode cX8_build 19 = .ok (.iload_n 1, 1) := by decide +kernel
theorem dX8_build_20 : decode cX8_build 20 = .ok (.invokevirtual 165, 3) := by decide +kernel
theorem dX8_build_23 : decode cX8_build 23 = .ok (.iconst 0, 1) := by decide +kernel
theorem dX8_build_24 : decode cX8_build 24 = .ok (.istore 4, 2) := by decide +kernel
theorem dX8_build_26 : decode cX8_build 26 = .ok (.iload 4, 2) := by decide +kernel
theorem dX8_build_28 : decode cX8_build 28 = .ok (.iconst 4, 1) := by decide +kernel
theorem dX8_build_29 : decode cX8_build 29 = .ok (.if_icmp .ge 74, 3) := by decide +kernel
theorem dX8_build_32 : decode cX8_build 32 = .ok (.iconst 0, 1) := by decide +kernel
theorem dX8_build_33 : decode cX8_build 33 = .ok (.istore 5, 2) := by decide +kernel
theorem dX8_build_35 : decode cX8_build 35 = .ok (.iload 5, 2) := by decide +kernel
theorem dX8_build_37 : decode cX8_build 37 = .ok (.iconst 4, 1) := by decide +kernel
theorem dX8_build_38 : decode cX8_build 38 = .ok (.if_icmp .ge 59, 3) := by decide +kernel
theorem dX8_build_41 : decode cX8_build 41 = .ok (.aload_n 0, 1) := by decide +kernel
theorem dX8_build_42 : decode cX8_build 42 = .ok (.getfield 25, 3) := by decide +kernel
theorem dX8_build_45 : decode cX8_build 45 = .ok (.bipush 16, 2) := by decide +kernel
theorem dX8_build_47 : decode cX8_build 47 = .ok (.iload_n 3, 1) := by decide +kernel
theorem dX8_build_48 : decode cX8_build 48 = .ok (.iload 4, 2) := by decide +kernel
theorem dX8_build_50 : decode cX8_build 50 = .ok (.iadd, 1) := by decide +kernel
theorem dX8_build_51 : decode cX8_build 51 = .ok (.imul, 1) := by decide +kernel
theorem dX8_build_52 : decode cX8_build 52 = .ok (.iload_n 2, 1) := by decide +kernel
theorem dX8_build_53 : decode cX8_build 53 = .ok (.iadd, 1) := by decide +kernel
theorem dX8_build_54 : decode cX8_build 54 = .ok (.iload 5, 2) := by decide +kernel
theorem dX8_build_56 : decode cX8_build 56 = .ok (.iadd, 1) := by decide +kernel
theorem dX8_build_57 : decode cX8_build 57 = .ok (.aload_n 0, 1) := by decide +kernel
theorem dX8_build_58 : decode cX8_build 58 = .ok (.aload_n 0, 1) := by decide +kernel
theorem dX8_build_59 : decode cX8_build 59 = .ok (.getfield 16, 3) := by decide +kernel
theorem dX8_build_62 : decode cX8_build 62 = .ok (.iload_n 1, 1) := by decide +kernel
theorem dX8_build_63 : decode cX8_build 63 = .ok (.iaload, 1) := by decide +kernel
theorem dX8_build_64 : decode cX8_build 64 = .ok (.iload_n 2, 1) := by decide +kernel
theorem dX8_build_65 : decode cX8_build 65 = .ok (.iload_n 3, 1) := by decide +kernel
theorem dX8_build_66 : decode cX8_build 66 = .ok (.iload 5, 2) := by decide +kernel
theorem dX8_build_68 : decode cX8_build 68 = .ok (.iload 4, 2) := by decide +kernel
theorem dX8_build_70 : decode cX8_build 70 = .ok (.invokevirtual 169, 3) := by decide +kernel
theorem dX8_build_73 : decode cX8_build 73 = .ok (.i2l, 1) := by decide +kernel
theorem dX8_build_74 : decode cX8_build 74 = .ok (.aload_n 0, 1) := by decide +kernel
theorem dX8_build_75 : decode cX8_build 75 = .ok (.getfield 28, 3) := by decide +kernel
theorem dX8_build_78 : decode cX8_build 78 = .ok (.iconst 4, 1) := by decide +kernel
theorem dX8_build_79 : decode cX8_build 79 = .ok (.iload 4, 2) := by decide +kernel
theorem dX8_build_81 : decode cX8_build 81 = .ok (.imul, 1) := by decide +kernel
theorem dX8_build_82 : decode cX8_build 82 = .ok (.iload 5, 2) := by decide +kernel
theorem dX8_build_84 : decode cX8_build 84 = .ok (.iadd, 1) := by decide +kernel
theorem dX8_build_85 : decode cX8_build 85 = .ok (.laload, 1) := by decide +kernel
theorem dX8_build_86 : decode cX8_build 86 = .ok (.ladd, 1) := by decide +kernel
theorem dX8_build_87 : decode cX8_build 87 = .ok (.invokestatic 161, 3) := by decide +kernel
theorem dX8_build_90 : decode cX8_build 90 = .ok (.iastore, 1) := by decide +kernel
theorem dX8_build_91 : decode cX8_build 91 = .ok (.iinc 5 1, 3) := by decide +kernel
theorem dX8_build_94 : decode cX8_build 94 = .ok (.goto (-59), 3) := by decide +kernel
theorem dX8_build_97 : decode cX8_build 97 = .ok (.iinc 4 1, 3) := by decide +kernel
theorem dX8_build_100 : decode cX8_build 100 = .ok (.goto (-74), 3) := by decide +kernel
theorem dX8_build_103 : decode cX8_build 103 = .ok (.return_, 1) := by decide +kernel
theorem dX8_limit_0 : decode cX8_limit 0 = .ok (.iload_n 0, 1) := by decide +kernel
theorem dX8_limit_1 : decode cX8_limit 1 = .ok (.bipush (-128), 2) := by decide +kernel
theorem dX8_limit_3 : decode cX8_limit 3 = .ok (.if_icmp .ge 8, 3) := by decide +kernel
theorem dX8_limit_6 : decode cX8_limit 6 = .ok (.bipush (-128), 2) := by decide +kernel
theorem dX8_limit_8 : decode cX8_limit 8 = .ok (.goto 15, 3) := by decide +kernel
theorem dX8_limit_11 : decode cX8_limit 11 = .ok (.iload_n 0, 1) := by decide +kernel
theorem dX8_limit_12 : decode cX8_limit 12 = .ok (.bipush 127, 2) := by decide +kernel
theorem dX8_limit_14 : decode cX8_limit 14 = .ok (.if_icmp .le 8, 3) := by decide +kernel
theorem dX8_limit_17 : decode cX8_limit 17 = .ok (.bipush 127, 2) := by decide +kernel
theorem dX8_limit_19 : decode cX8_limit 19 = .ok (.goto 4, 3) := by decide +kernel
theorem dX8_limit_22 : decode cX8_limit 22 = .ok (.iload_n 0, 1) := by decide +kernel
theorem dX8_limit_23 : decode cX8_limit 23 = .ok (.ireturn, 1) := by decide +kernel
theorem dX8_apart_0 : decode cX8_apart 0 = .ok (.iload_n 0, 1) := by decide +kernel
theorem dX8_apart_1 : decode cX8_apart 1 = .ok (.iload_n 1, 1) := by decide +kernel
theorem dX8_apart_2 : decode cX8_apart 2 = .ok (.if_icmp .ge 9, 3) := by decide +kernel
theorem dX8_apart_5 : decode cX8_apart 5 = .ok (.iload_n 1, 1) := by decide +kernel
theorem dX8_apart_6 : decode cX8_apart 6 = .ok (.iload_n 0, 1) := by decide +kernel
theorem dX8_apart_7 : decode cX8_apart 7 = .ok (.isub, 1) := by decide +kernel
theorem dX8_apart_8 : decode cX8_apart 8 = .ok (.goto 6, 3) := by decide +kernel
theorem dX8_apart_11 : decode cX8_apart 11 = .ok (.iload_n 0, 1) := by decide +kernel
theorem dX8_apart_12 : decode cX8_apart 12 = .ok (.iload_n 1, 1) := by decide +kernel
theorem dX8_apart_13 : decode cX8_apart 13 = .ok (.isub, 1) := by decide +kernel
theorem dX8_apart_14 : decode cX8_apart 14 = .ok (.ireturn, 1) := by decide +kernel
theorem dX8_smooth_0 : decode cX8_smooth 0 = .ok (.aload_n 0, 1) := by decide +kernel
theorem dX8_smooth_1 : decode cX8_smooth 1 = .ok (.getfield 25, 3) := by decide +kernel
theorem dX8_smooth_4 : decode cX8_smooth 4 = .ok (.iload_n 1, 1) := by decide +kernel
theorem dX8_smooth_5 : decode cX8_smooth 5 = .ok (.iconst 2, 1) := by decide +kernel
theorem dX8_smooth_6 : decode cX8_smooth 6 = .ok (.iload_n 2, 1) := by decide +kernel
theorem dX8_smooth_7 : decode cX8_smooth 7 = .ok (.imul, 1) := by decide +kernel
theorem dX8_smooth_8 : decode cX8_smooth 8 = .ok (.isub, 1) := by decide +kernel
theorem dX8_smooth_9 : decode cX8_smooth 9 = .ok (.iaload, 1) := by decide +kernel
theorem dX8_smooth_10 : decode cX8_smooth 10 = .ok (.istore_n 3, 1) := by decide +kernel
theorem dX8_smooth_11 : decode cX8_smooth 11 = .ok (.aload_n 0, 1) := by decide +kernel
theorem dX8_smooth_12 : decode cX8_smooth 12 = .ok (.getfield 25, 3) := by decide +kernel
theorem dX8_smooth_15 : decode cX8_smooth 15 = .ok (.iload_n 1, 1) := by decide +kernel
theorem dX8_smooth_16 : decode cX8_smooth 16 = .ok (.iload_n 2, 1) := by decide +kernel
theorem dX8_smooth_17 : decode cX8_smooth 17 = .ok (.isub, 1) := by decide +kernel
theorem dX8_smooth_18 : decode cX8_smooth 18 = .ok (.iaload, 1) := by decide +kernel
theorem dX8_smooth_19 : decode cX8_smooth 19 = .ok (.istore 4, 2) := by decide +kernel
theorem dX8_smooth_21 : decode cX8_smooth 21 = .ok (.aload_n 0, 1) := by decide +kernel
theorem dX8_smooth_22 : decode cX8_smooth 22 = .ok (.getfield 25, 3) := by decide +kernel
theorem dX8_smooth_25 : decode cX8_smooth 25 = .ok (.iload_n 1, 1) := by decide +kernel
theorem dX8_smooth_26 : decode cX8_smooth 26 = .ok (.iaload, 1) := by decide +kernel
theorem dX8_smooth_27 : decode cX8_smooth 27 = .ok (.istore 5, 2) := by decide +kernel
theorem dX8_smooth_29 : decode cX8_smooth 29 = .ok (.aload_n 0, 1) := by decide +kernel
theorem dX8_smooth_30 : decode cX8_smooth 30 = .ok (.getfield 25, 3) := by decide +kernel
theorem dX8_smooth_33 : decode cX8_smooth 33 = .ok (.iload_n 1, 1) := by decide +kernel
theorem dX8_smooth_34 : decode cX8_smooth 34 = .ok (.iload_n 2, 1) := by decide +kernel
theorem dX8_smooth_35 : decode cX8_smooth 35 = .ok (.iadd, 1) := by decide +kernel
theorem dX8_smooth_36 : decode cX8_smooth 36 = .ok (.iaload, 1) := by decide +kernel
theorem dX8_smooth_37 : decode cX8_smooth 37 = .ok (.istore 6, 2) := by decide +kernel
theorem dX8_smooth_39 : decode cX8_smooth 39 = .ok (.iconst 2, 1) := by decide +kernel
theorem dX8_smooth_40 : decode cX8_smooth 40 = .ok (.iload 4, 2) := by decide +kernel
theorem dX8_smooth_42 : decode cX8_smooth 42 = .ok (.iload 5, 2) := by decide +kernel
theorem dX8_smooth_44 : decode cX8_smooth 44 = .ok (.invokestatic 173, 3) := by decide +kernel
theorem dX8_smooth_47 : decode cX8_smooth 47 = .ok (.imul, 1) := by decide +kernel
theorem dX8_smooth_48 : decode cX8_smooth 48 = .ok (.iload_n 3, 1) := by decide +kernel
theorem dX8_smooth_49 : decode cX8_smooth 49 = .ok (.iload 6, 2) := by decide +kernel
theorem dX8_smooth_51 : decode cX8_smooth 51 = .ok (.invokestatic 173, 3) := by decide +kernel
theorem dX8_smooth_54 : decode cX8_smooth 54 = .ok (.iconst 2, 1) := by decide +kernel
theorem dX8_smooth_55 : decode cX8_smooth 55 = .ok (.idiv, 1) := by decide +kernel
theorem dX8_smooth_56 : decode cX8_smooth 56 = .ok (.iadd, 1) := by decide +kernel
theorem dX8_smooth_57 : decode cX8_smooth 57 = .ok (.iconst 2, 1) := by decide +kernel
theorem dX8_smooth_58 : decode cX8_smooth 58 = .ok (.aload_n 0, 1) := by decide +kernel
theorem dX8_smooth_59 : decode cX8_smooth 59 = .ok (.getfield 176, 3) := by decide +kernel
theorem dX8_smooth_62 : decode cX8_smooth 62 = .ok (.imul, 1) := by decide +kernel
theorem dX8_smooth_63 : decode cX8_smooth 63 = .ok (.iconst 4, 1) := by decide +kernel
theorem dX8_smooth_64 : decode cX8_smooth 64 = .ok (.iadd, 1) := by decide +kernel
theorem dX8_smooth_65 : decode cX8_smooth 65 = .ok (.if_icmp .le 4, 3) := by decide +kernel
theorem dX8_smooth_68 : decode cX8_smooth 68 = .ok (.return_, 1) := by decide +kernel
theorem dX8_smooth_69 : decode cX8_smooth 69 = .ok (.iload_n 3, 1) := by decide +kernel
theorem dX8_smooth_70 : decode cX8_smooth 70 = .ok (.iload 6, 2) := by decide +kernel
theorem dX8_smooth_72 : decode cX8_smooth 72 = .ok (.isub, 1) := by decide +kernel
theorem dX8_smooth_73 : decode cX8_smooth 73 = .ok (.invokestatic 179, 3) := by decide +kernel
theorem dX8_smooth_76 : decode cX8_smooth 76 = .ok (.iconst 3, 1) := by decide +kernel
theorem dX8_smooth_77 : decode cX8_smooth 77 = .ok (.iload 5, 2) := by decide +kernel
theorem dX8_smooth_79 : decode cX8_smooth 79 = .ok (.iload 4, 2) := by decide +kernel
theorem dX8_smooth_81 : decode cX8_smooth 81 = .ok (.isub, 1) := by decide +kernel
theorem dX8_smooth_82 : decode cX8_smooth 82 = .ok (.imul, 1) := by decide +kernel
theorem dX8_smooth_83 : decode cX8_smooth 83 = .ok (.iadd, 1) := by decide +kernel
theorem dX8_smooth_84 : decode cX8_smooth 84 = .ok (.invokestatic 179, 3) := by decide +kernel
theorem dX8_smooth_87 : decode cX8_smooth 87 = .ok (.istore 7, 2) := by decide +kernel
theorem dX8_smooth_89 : decode cX8_smooth 89 = .ok (.iload 7, 2) := by decide +kernel
theorem dX8_smooth_91 : decode cX8_smooth 91 = .ok (.iconst 4, 1) := by decide +kernel
theorem dX8_smooth_92 : decode cX8_smooth 92 = .ok (.iadd, 1) := by decide +kernel
theorem dX8_smooth_93 : decode cX8_smooth 93 = .ok (.invokestatic 179, 3) := by decide +kernel
theorem dX8_smooth_96 : decode cX8_smooth 96 = .ok (.iconst 3, 1) := by decide +kernel
theorem dX8_smooth_97 : decode cX8_smooth 97 = .ok (.ishr, 1) := by decide +kernel
theorem dX8_smooth_98 : decode cX8_smooth 98 = .ok (.istore 8, 2) := by decide +kernel
theorem dX8_smooth_100 : decode cX8_smooth 100 = .ok (.iload 7, 2) := by decide +kernel
theorem dX8_smooth_102 : decode cX8_smooth 102 = .ok (.iconst 3, 1) := by decide +kernel
theorem dX8_smooth_103 : decode cX8_smooth 103 = .ok (.iadd, 1) := by decide +kernel
theorem dX8_smooth_104 : decode cX8_smooth 104 = .ok (.invokestatic 179, 3) := by decide +kernel
theorem dX8_smooth_107 : decode cX8_smooth 107 = .ok (.iconst 3, 1) := by decide +kernel
theorem dX8_smooth_108 : decode cX8_smooth 108 = .ok (.ishr, 1) := by decide +kernel
theorem dX8_smooth_109 : decode cX8_smooth 109 = .ok (.istore 9, 2) := by decide +kernel
theorem dX8_smooth_111 : decode cX8_smooth 111 = .ok (.aload_n 0, 1) := by decide +kernel
theorem dX8_smooth_112 : decode cX8_smooth 112 = .ok (.getfield 25, 3) := by decide +kernel
theorem dX8_smooth_115 : decode cX8_smooth 115 = .ok (.iload_n 1, 1) := by decide +kernel
theorem dX8_smooth_116 : decode cX8_smooth 116 = .ok (.iload 5, 2) := by decide +kernel
theorem dX8_smooth_118 : decode cX8_smooth 118 = .ok (.sipush 128, 3) := by decide +kernel
theorem dX8_smooth_121 : decode cX8_smooth 121 = .ok (.isub, 1) := by decide +kernel
theorem dX8_smooth_122 : decode cX8_smooth 122 = .ok (.iload 8, 2) := by decide +kernel
theorem dX8_smooth_124 : decode cX8_smooth 124 = .ok (.isub, 1) := by decide +kernel
theorem dX8_smooth_125 : decode cX8_smooth 125 = .ok (.invokestatic 179, 3) := by decide +kernel
theorem dX8_smooth_128 : decode cX8_smooth 128 = .ok (.sipush 128, 3) := by decide +kernel
theorem dX8_smooth_131 : decode cX8_smooth 131 = .ok (.iadd, 1) := by decide +kernel
theorem dX8_smooth_132 : decode cX8_smooth 132 = .ok (.iastore, 1) := by decide +kernel
theorem dX8_smooth_133 : decode cX8_smooth 133 = .ok (.aload_n 0, 1) := by decide +kernel
theorem dX8_smooth_134 : decode cX8_smooth 134 = .ok (.getfield 25, 3) := by decide +kernel
theorem dX8_smooth_137 : decode cX8_smooth 137 = .ok (.iload_n 1, 1) := by decide +kernel
theorem dX8_smooth_138 : decode cX8_smooth 138 = .ok (.iload_n 2, 1) := by decide +kernel
theorem dX8_smooth_139 : decode cX8_smooth 139 = .ok (.isub, 1) := by decide +kernel
theorem dX8_smooth_140 : decode cX8_smooth 140 = .ok (.iload 4, 2) := by decide +kernel
theorem dX8_smooth_142 : decode cX8_smooth 142 = .ok (.sipush 128, 3) := by decide +kernel
theorem dX8_smooth_145 : decode cX8_smooth 145 = .ok (.isub, 1) := by decide +kernel
theorem dX8_smooth_146 : decode cX8_smooth 146 = .ok (.iload 9, 2) := by decide +kernel
theorem dX8_smooth_148 : decode cX8_smooth 148 = .ok (.iadd, 1) := by decide +kernel
theorem dX8_smooth_149 : decode cX8_smooth 149 = .ok (.invokestatic 179, 3) := by decide +kernel
theorem dX8_smooth_152 : decode cX8_smooth 152 = .ok (.sipush 128, 3) := by decide +kernel
theorem dX8_smooth_155 : decode cX8_smooth 155 = .ok (.iadd, 1) := by decide +kernel
theorem dX8_smooth_156 : decode cX8_smooth 156 = .ok (.iastore, 1) := by decide +kernel
theorem dX8_smooth_157 : decode cX8_smooth 157 = .ok (.aload_n 0, 1) := by decide +kernel
theorem dX8_smooth_158 : decode cX8_smooth 158 = .ok (.getfield 25, 3) := by decide +kernel
theorem dX8_smooth_161 : decode cX8_smooth 161 = .ok (.iload_n 1, 1) := by decide +kernel
theorem dX8_smooth_162 : decode cX8_smooth 162 = .ok (.iaload, 1) := by decide +kernel
theorem dX8_smooth_163 : decode cX8_smooth 163 = .ok (.iload 5, 2) := by decide +kernel
theorem dX8_smooth_165 : decode cX8_smooth 165 = .ok (.if_icmp .ne 16, 3) := by decide +kernel
theorem dX8_smooth_168 : decode cX8_smooth 168 = .ok (.aload_n 0, 1) := by decide +kernel
theorem dX8_smooth_169 : decode cX8_smooth 169 = .ok (.getfield 25, 3) := by decide +kernel
theorem dX8_smooth_172 : decode cX8_smooth 172 = .ok (.iload_n 1, 1) := by decide +kernel
theorem dX8_smooth_173 : decode cX8_smooth 173 = .ok (.iload_n 2, 1) := by decide +kernel
theorem dX8_smooth_174 : decode cX8_smooth 174 = .ok (.isub, 1) := by decide +kernel
theorem dX8_smooth_175 : decode cX8_smooth 175 = .ok (.iaload, 1) := by decide +kernel
theorem dX8_smooth_176 : decode cX8_smooth 176 = .ok (.iload 4, 2) := by decide +kernel
theorem dX8_smooth_178 : decode cX8_smooth 178 = .ok (.if_icmp .eq 13, 3) := by decide +kernel
theorem dX8_smooth_181 : decode cX8_smooth 181 = .ok (.aload_n 0, 1) := by decide +kernel
theorem dX8_smooth_182 : decode cX8_smooth 182 = .ok (.dup, 1) := by decide +kernel
theorem dX8_smooth_183 : decode cX8_smooth 183 = .ok (.getfield 182, 3) := by decide +kernel
theorem dX8_smooth_186 : decode cX8_smooth 186 = .ok (.iconst 1, 1) := by decide +kernel
theorem dX8_smooth_187 : decode cX8_smooth 187 = .ok (.iadd, 1) := by decide +kernel
theorem dX8_smooth_188 : decode cX8_smooth 188 = .ok (.putfield 182, 3) := by decide +kernel
theorem dX8_smooth_191 : decode cX8_smooth 191 = .ok (.return_, 1) := by decide +kernel
theorem dX8_filter_0 : decode cX8_filter 0 = .ok (.iconst 0, 1) := by decide +kernel
theorem dX8_filter_1 : decode cX8_filter 1 = .ok (.istore_n 1, 1) := by decide +kernel
theorem dX8_filter_2 : decode cX8_filter 2 = .ok (.iload_n 1, 1) := by decide +kernel
theorem dX8_filter_3 : decode cX8_filter 3 = .ok (.aload_n 0, 1) := by decide +kernel
theorem dX8_filter_4 : decode cX8_filter 4 = .ok (.getfield 124, 3) := by decide +kernel
theorem dX8_filter_7 : decode cX8_filter 7 = .ok (.aload_n 0, 1) := by decide +kernel
theorem dX8_filter_8 : decode cX8_filter 8 = .ok (.getfield 185, 3) := by decide +kernel
theorem dX8_filter_11 : decode cX8_filter 11 = .ok (.imul, 1) := by decide +kernel
theorem dX8_filter_12 : decode cX8_filter 12 = .ok (.if_icmp .ge 94, 3) := by decide +kernel
theorem dX8_filter_15 : decode cX8_filter 15 = .ok (.iconst 4, 1) := by decide +kernel
theorem dX8_filter_16 : decode cX8_filter 16 = .ok (.iload_n 1, 1) := by decide +kernel
theorem dX8_filter_17 : decode cX8_filter 17 = .ok (.aload_n 0, 1) := by decide +kernel
theorem dX8_filter_18 : decode cX8_filter 18 = .ok (.getfield 124, 3) := by decide +kernel
theorem dX8_filter_21 : decode cX8_filter 21 = .ok (.irem, 1) := by decide +kernel
theorem dX8_filter_22 : decode cX8_filter 22 = .ok (.imul, 1) := by decide +kernel
theorem dX8_filter_23 : decode cX8_filter 23 = .ok (.istore_n 2, 1) := by decide +kernel
theorem dX8_filter_24 : decode cX8_filter 24 = .ok (.iconst 4, 1) := by decide +kernel
theorem dX8_filter_25 : decode cX8_filter 25 = .ok (.iload_n 1, 1) := by decide +kernel
theorem dX8_filter_26 : decode cX8_filter 26 = .ok (.aload_n 0, 1) := by decide +kernel
theorem dX8_filter_27 : decode cX8_filter 27 = .ok (.getfield 124, 3) := by decide +kernel
theorem dX8_filter_30 : decode cX8_filter 30 = .ok (.idiv, 1) := by decide +kernel
theorem dX8_filter_31 : decode cX8_filter 31 = .ok (.imul, 1) := by decide +kernel
theorem dX8_filter_32 : decode cX8_filter 32 = .ok (.istore_n 3, 1) := by decide +kernel
theorem dX8_filter_33 : decode cX8_filter 33 = .ok (.iconst 0, 1) := by decide +kernel
theorem dX8_filter_34 : decode cX8_filter 34 = .ok (.istore 4, 2) := by decide +kernel
theorem dX8_filter_36 : decode cX8_filter 36 = .ok (.iload 4, 2) := by decide +kernel
theorem dX8_filter_38 : decode cX8_filter 38 = .ok (.iconst 4, 1) := by decide +kernel
theorem dX8_filter_39 : decode cX8_filter 39 = .ok (.if_icmp .ge 27, 3) := by decide +kernel
theorem dX8_filter_42 : decode cX8_filter 42 = .ok (.iload_n 2, 1) := by decide +kernel
theorem dX8_filter_43 : decode cX8_filter 43 = .ok (.ifCond .le 23, 3) := by decide +kernel
theorem dX8_filter_46 : decode cX8_filter 46 = .ok (.aload_n 0, 1) := by decide +kernel
theorem dX8_filter_47 : decode cX8_filter 47 = .ok (.bipush 16, 2) := by decide +kernel
theorem dX8_filter_49 : decode cX8_filter 49 = .ok (.iload_n 3, 1) := by decide +kernel
theorem dX8_filter_50 : decode cX8_filter 50 = .ok (.iload 4, 2) := by decide +kernel
theorem dX8_filter_52 : decode cX8_filter 52 = .ok (.iadd, 1) := by decide +kernel
theorem dX8_filter_53 : decode cX8_filter 53 = .ok (.imul, 1) := by decide +kernel
theorem dX8_filter_54 : decode cX8_filter 54 = .ok (.iload_n 2, 1) := by decide +kernel
theorem dX8_filter_55 : decode cX8_filter 55 = .ok (.iadd, 1) := by decide +kernel
theorem dX8_filter_56 : decode cX8_filter 56 = .ok (.iconst 1, 1) := by decide +kernel
theorem dX8_filter_57 : decode cX8_filter 57 = .ok (.invokevirtual 188, 3) := by decide +kernel
theorem dX8_filter_60 : decode cX8_filter 60 = .ok (.iinc 4 1, 3) := by decide +kernel
theorem dX8_filter_63 : decode cX8_filter 63 = .ok (.goto (-27), 3) := by decide +kernel
theorem dX8_filter_66 : decode cX8_filter 66 = .ok (.iconst 0, 1) := by decide +kernel
theorem dX8_filter_67 : decode cX8_filter 67 = .ok (.istore 4, 2) := by decide +kernel
theorem dX8_filter_69 : decode cX8_filter 69 = .ok (.iload 4, 2) := by decide +kernel
theorem dX8_filter_71 : decode cX8_filter 71 = .ok (.iconst 4, 1) := by decide +kernel
theorem dX8_filter_72 : decode cX8_filter 72 = .ok (.if_icmp .ge 28, 3) := by decide +kernel
theorem dX8_filter_75 : decode cX8_filter 75 = .ok (.iload_n 3, 1) := by decide +kernel
theorem dX8_filter_76 : decode cX8_filter 76 = .ok (.ifCond .le 24, 3) := by decide +kernel
theorem dX8_filter_79 : decode cX8_filter 79 = .ok (.aload_n 0, 1) := by decide +kernel
theorem dX8_filter_80 : decode cX8_filter 80 = .ok (.bipush 16, 2) := by decide +kernel
theorem dX8_filter_82 : decode cX8_filter 82 = .ok (.iload_n 3, 1) := by decide +kernel
theorem dX8_filter_83 : decode cX8_filter 83 = .ok (.imul, 1) := by decide +kernel
theorem dX8_filter_84 : decode cX8_filter 84 = .ok (.iload_n 2, 1) := by decide +kernel
theorem dX8_filter_85 : decode cX8_filter 85 = .ok (.iadd, 1) := by decide +kernel
theorem dX8_filter_86 : decode cX8_filter 86 = .ok (.iload 4, 2) := by decide +kernel
theorem dX8_filter_88 : decode cX8_filter 88 = .ok (.iadd, 1) := by decide +kernel
theorem dX8_filter_89 : decode cX8_filter 89 = .ok (.bipush 16, 2) := by decide +kernel
theorem dX8_filter_91 : decode cX8_filter 91 = .ok (.invokevirtual 188, 3) := by decide +kernel
theorem dX8_filter_94 : decode cX8_filter 94 = .ok (.iinc 4 1, 3) := by decide +kernel
theorem dX8_filter_97 : decode cX8_filter 97 = .ok (.goto (-28), 3) := by decide +kernel
theorem dX8_filter_100 : decode cX8_filter 100 = .ok (.iinc 1 1, 3) := by decide +kernel
theorem dX8_filter_103 : decode cX8_filter 103 = .ok (.goto (-101), 3) := by decide +kernel
theorem dX8_filter_106 : decode cX8_filter 106 = .ok (.return_, 1) := by decide +kernel
theorem dX8_readWay_0 : decode cX8_readWay 0 = .ok (.aload_n 0, 1) := by decide +kernel
theorem dX8_readWay_1 : decode cX8_readWay 1 = .ok (.bipush 112, 2) := by decide +kernel
theorem dX8_readWay_3 : decode cX8_readWay 3 = .ok (.invokevirtual 94, 3) := by decide +kernel
theorem dX8_readWay_6 : decode cX8_readWay 6 = .ok (.ifCond .ne 5, 3) := by decide +kernel
theorem dX8_readWay_9 : decode cX8_readWay 9 = .ok (.iconst 0, 1) := by decide +kernel
theorem dX8_readWay_10 : decode cX8_readWay 10 = .ok (.ireturn, 1) := by decide +kernel
theorem dX8_readWay_11 : decode cX8_readWay 11 = .ok (.aload_n 0, 1) := by decide +kernel
theorem dX8_readWay_12 : decode cX8_readWay 12 = .ok (.bipush 86, 2) := by decide +kernel
theorem dX8_readWay_14 : decode cX8_readWay 14 = .ok (.invokevirtual 94, 3) := by decide +kernel
theorem dX8_readWay_17 : decode cX8_readWay 17 = .ok (.ifCond .ne 5, 3) := by decide +kernel
theorem dX8_readWay_20 : decode cX8_readWay 20 = .ok (.iconst 1, 1) := by decide +kernel
theorem dX8_readWay_21 : decode cX8_readWay 21 = .ok (.ireturn, 1) := by decide +kernel
theorem dX8_readWay_22 : decode cX8_readWay 22 = .ok (.iconst 2, 1) := by decide +kernel
theorem dX8_readWay_23 : decode cX8_readWay 23 = .ok (.aload_n 0, 1) := by decide +kernel
theorem dX8_readWay_24 : decode cX8_readWay 24 = .ok (.sipush 140, 3) := by decide +kernel
theorem dX8_readWay_27 : decode cX8_readWay 27 = .ok (.invokevirtual 94, 3) := by decide +kernel
theorem dX8_readWay_30 : decode cX8_readWay 30 = .ok (.iadd, 1) := by decide +kernel
theorem dX8_readWay_31 : decode cX8_readWay 31 = .ok (.ireturn, 1) := by decide +kernel
theorem dX8_decode_0 : decode cX8_decode 0 = .ok (.aload_n 0, 1) := by decide +kernel
theorem dX8_decode_1 : decode cX8_decode 1 = .ok (.iconst 0, 1) := by decide +kernel
theorem dX8_decode_2 : decode cX8_decode 2 = .ok (.putfield 32, 3) := by decide +kernel
theorem dX8_decode_5 : decode cX8_decode 5 = .ok (.aload_n 0, 1) := by decide +kernel
theorem dX8_decode_6 : decode cX8_decode 6 = .ok (.iconst 0, 1) := by decide +kernel
theorem dX8_decode_7 : decode cX8_decode 7 = .ok (.putfield 47, 3) := by decide +kernel
theorem dX8_decode_10 : decode cX8_decode 10 = .ok (.aload_n 0, 1) := by decide +kernel
theorem dX8_decode_11 : decode cX8_decode 11 = .ok (.invokevirtual 91, 3) := by decide +kernel
theorem dX8_decode_14 : decode cX8_decode 14 = .ok (.aload_n 0, 1) := by decide +kernel
theorem dX8_decode_15 : decode cX8_decode 15 = .ok (.iconst 1, 1) := by decide +kernel
theorem dX8_decode_16 : decode cX8_decode 16 = .ok (.aload_n 0, 1) := by decide +kernel
theorem dX8_decode_17 : decode cX8_decode 17 = .ok (.sipush 128, 3) := by decide +kernel
theorem dX8_decode_20 : decode cX8_decode 20 = .ok (.iconst 2, 1) := by decide +kernel
theorem dX8_decode_21 : decode cX8_decode 21 = .ok (.invokevirtual 97, 3) := by decide +kernel
theorem dX8_decode_24 : decode cX8_decode 24 = .ok (.iadd, 1) := by decide +kernel
theorem dX8_decode_25 : decode cX8_decode 25 = .ok (.putfield 124, 3) := by decide +kernel
theorem dX8_decode_28 : decode cX8_decode 28 = .ok (.aload_n 0, 1) := by decide +kernel
theorem dX8_decode_29 : decode cX8_decode 29 = .ok (.iconst 1, 1) := by decide +kernel
theorem dX8_decode_30 : decode cX8_decode 30 = .ok (.aload_n 0, 1) := by decide +kernel
theorem dX8_decode_31 : decode cX8_decode 31 = .ok (.sipush 128, 3) := by decide +kernel
theorem dX8_decode_34 : decode cX8_decode 34 = .ok (.iconst 2, 1) := by decide +kernel
theorem dX8_decode_35 : decode cX8_decode 35 = .ok (.invokevirtual 97, 3) := by decide +kernel
theorem dX8_decode_38 : decode cX8_decode 38 = .ok (.iadd, 1) := by decide +kernel
theorem dX8_decode_39 : decode cX8_decode 39 = .ok (.putfield 185, 3) := by decide +kernel
theorem dX8_decode_42 : decode cX8_decode 42 = .ok (.aload_n 0, 1) := by decide +kernel
theorem dX8_decode_43 : decode cX8_decode 43 = .ok (.aload_n 0, 1) := by decide +kernel
theorem dX8_decode_44 : decode cX8_decode 44 = .ok (.sipush 128, 3) := by decide +kernel
theorem dX8_decode_47 : decode cX8_decode 47 = .ok (.bipush 7, 2) := by decide +kernel
theorem dX8_decode_49 : decode cX8_decode 49 = .ok (.invokevirtual 97, 3) := by decide +kernel
theorem dX8_decode_52 : decode cX8_decode 52 = .ok (.putfield 147, 3) := by decide +kernel
theorem dX8_decode_55 : decode cX8_decode 55 = .ok (.aload_n 0, 1) := by decide +kernel
theorem dX8_decode_56 : decode cX8_decode 56 = .ok (.aload_n 0, 1) := by decide +kernel
theorem dX8_decode_57 : decode cX8_decode 57 = .ok (.sipush 128, 3) := by decide +kernel
theorem dX8_decode_60 : decode cX8_decode 60 = .ok (.bipush 6, 2) := by decide +kernel
theorem dX8_decode_62 : decode cX8_decode 62 = .ok (.invokevirtual 97, 3) := by decide +kernel
theorem dX8_decode_65 : decode cX8_decode 65 = .ok (.putfield 176, 3) := by decide +kernel
theorem dX8_decode_68 : decode cX8_decode 68 = .ok (.aload_n 0, 1) := by decide +kernel
theorem dX8_decode_69 : decode cX8_decode 69 = .ok (.iconst 0, 1) := by decide +kernel
theorem dX8_decode_70 : decode cX8_decode 70 = .ok (.putfield 191, 3) := by decide +kernel
theorem dX8_decode_73 : decode cX8_decode 73 = .ok (.aload_n 0, 1) := by decide +kernel
theorem dX8_decode_74 : decode cX8_decode 74 = .ok (.iconst 0, 1) := by decide +kernel
theorem dX8_decode_75 : decode cX8_decode 75 = .ok (.putfield 182, 3) := by decide +kernel
theorem dX8_decode_78 : decode cX8_decode 78 = .ok (.iconst 0, 1) := by decide +kernel
theorem dX8_decode_79 : decode cX8_decode 79 = .ok (.istore_n 1, 1) := by decide +kernel
theorem dX8_decode_80 : decode cX8_decode 80 = .ok (.iload_n 1, 1) := by decide +kernel
theorem dX8_decode_81 : decode cX8_decode 81 = .ok (.sipush 264, 3) := by decide +kernel
theorem dX8_decode_84 : decode cX8_decode 84 = .ok (.if_icmp .ge 64, 3) := by decide +kernel
theorem dX8_decode_87 : decode cX8_decode 87 = .ok (.aload_n 0, 1) := by decide +kernel
theorem dX8_decode_88 : decode cX8_decode 88 = .ok (.getfield 13, 3) := by decide +kernel
theorem dX8_decode_91 : decode cX8_decode 91 = .ok (.iload_n 1, 1) := by decide +kernel
theorem dX8_decode_92 : decode cX8_decode 92 = .ok (.sipush 128, 3) := by decide +kernel
theorem dX8_decode_95 : decode cX8_decode 95 = .ok (.iastore, 1) := by decide +kernel
theorem dX8_decode_96 : decode cX8_decode 96 = .ok (.aload_n 0, 1) := by decide +kernel
theorem dX8_decode_97 : decode cX8_decode 97 = .ok (.sipush 250, 3) := by decide +kernel
theorem dX8_decode_100 : decode cX8_decode 100 = .ok (.invokevirtual 94, 3) := by decide +kernel
theorem dX8_decode_103 : decode cX8_decode 103 = .ok (.iconst 1, 1) := by decide +kernel
theorem dX8_decode_104 : decode cX8_decode 104 = .ok (.if_icmp .ne 38, 3) := by decide +kernel
theorem dX8_decode_107 : decode cX8_decode 107 = .ok (.aload_n 0, 1) := by decide +kernel
theorem dX8_decode_108 : decode cX8_decode 108 = .ok (.sipush 128, 3) := by decide +kernel
theorem dX8_decode_111 : decode cX8_decode 111 = .ok (.bipush 8, 2) := by decide +kernel
theorem dX8_decode_113 : decode cX8_decode 113 = .ok (.invokevirtual 97, 3) := by decide +kernel
theorem dX8_decode_116 : decode cX8_decode 116 = .ok (.istore_n 2, 1) := by decide +kernel
theorem dX8_decode_117 : decode cX8_decode 117 = .ok (.aload_n 0, 1) := by decide +kernel
theorem dX8_decode_118 : decode cX8_decode 118 = .ok (.getfield 13, 3) := by decide +kernel
theorem dX8_decode_121 : decode cX8_decode 121 = .ok (.iload_n 1, 1) := by decide +kernel
theorem dX8_decode_122 : decode cX8_decode 122 = .ok (.iload_n 2, 1) := by decide +kernel
theorem dX8_decode_123 : decode cX8_decode 123 = .ok (.ifCond .ne 7, 3) := by decide +kernel
theorem dX8_decode_126 : decode cX8_decode 126 = .ok (.iconst 1, 1) := by decide +kernel
theorem dX8_decode_127 : decode cX8_decode 127 = .ok (.goto 4, 3) := by decide +kernel
theorem dX8_decode_130 : decode cX8_decode 130 = .ok (.iload_n 2, 1) := by decide +kernel
theorem dX8_decode_131 : decode cX8_decode 131 = .ok (.iastore, 1) := by decide +kernel
theorem dX8_decode_132 : decode cX8_decode 132 = .ok (.aload_n 0, 1) := by decide +kernel
theorem dX8_decode_133 : decode cX8_decode 133 = .ok (.dup, 1) := by decide +kernel
theorem dX8_decode_134 : decode cX8_decode 134 = .ok (.getfield 191, 3) := by decide +kernel
theorem dX8_decode_137 : decode cX8_decode 137 = .ok (.iconst 1, 1) := by decide +kernel
theorem dX8_decode_138 : decode cX8_decode 138 = .ok (.iadd, 1) := by decide +kernel
theorem dX8_decode_139 : decode cX8_decode 139 = .ok (.putfield 191, 3) := by decide +kernel
theorem dX8_decode_142 : decode cX8_decode 142 = .ok (.iinc 1 1, 3) := by decide +kernel
theorem dX8_decode_145 : decode cX8_decode 145 = .ok (.goto (-65), 3) := by decide +kernel
theorem dX8_decode_148 : decode cX8_decode 148 = .ok (.iconst 0, 1) := by decide +kernel
theorem dX8_decode_149 : decode cX8_decode 149 = .ok (.istore_n 1, 1) := by decide +kernel
theorem dX8_decode_150 : decode cX8_decode 150 = .ok (.iload_n 1, 1) := by decide +kernel
theorem dX8_decode_151 : decode cX8_decode 151 = .ok (.aload_n 0, 1) := by decide +kernel
theorem dX8_decode_152 : decode cX8_decode 152 = .ok (.getfield 124, 3) := by decide +kernel
theorem dX8_decode_155 : decode cX8_decode 155 = .ok (.aload_n 0, 1) := by decide +kernel
theorem dX8_decode_156 : decode cX8_decode 156 = .ok (.getfield 185, 3) := by decide +kernel
theorem dX8_decode_159 : decode cX8_decode 159 = .ok (.imul, 1) := by decide +kernel
theorem dX8_decode_160 : decode cX8_decode 160 = .ok (.if_icmp .ge 29, 3) := by decide +kernel
theorem dX8_decode_163 : decode cX8_decode 163 = .ok (.aload_n 0, 1) := by decide +kernel
theorem dX8_decode_164 : decode cX8_decode 164 = .ok (.getfield 16, 3) := by decide +kernel
theorem dX8_decode_167 : decode cX8_decode 167 = .ok (.iload_n 1, 1) := by decide +kernel
theorem dX8_decode_168 : decode cX8_decode 168 = .ok (.aload_n 0, 1) := by decide +kernel
theorem dX8_decode_169 : decode cX8_decode 169 = .ok (.invokevirtual 194, 3) := by decide +kernel
theorem dX8_decode_172 : decode cX8_decode 172 = .ok (.iastore, 1) := by decide +kernel
theorem dX8_decode_173 : decode cX8_decode 173 = .ok (.aload_n 0, 1) := by decide +kernel
theorem dX8_decode_174 : decode cX8_decode 174 = .ok (.iload_n 1, 1) := by decide +kernel
theorem dX8_decode_175 : decode cX8_decode 175 = .ok (.invokevirtual 198, 3) := by decide +kernel
theorem dX8_decode_178 : decode cX8_decode 178 = .ok (.aload_n 0, 1) := by decide +kernel
theorem dX8_decode_179 : decode cX8_decode 179 = .ok (.iload_n 1, 1) := by decide +kernel
theorem dX8_decode_180 : decode cX8_decode 180 = .ok (.invokevirtual 201, 3) := by decide +kernel
theorem dX8_decode_183 : decode cX8_decode 183 = .ok (.iinc 1 1, 3) := by decide +kernel
theorem dX8_decode_186 : decode cX8_decode 186 = .ok (.goto (-36), 3) := by decide +kernel
theorem dX8_decode_189 : decode cX8_decode 189 = .ok (.aload_n 0, 1) := by decide +kernel
theorem dX8_decode_190 : decode cX8_decode 190 = .ok (.getfield 176, 3) := by decide +kernel
theorem dX8_decode_193 : decode cX8_decode 193 = .ok (.ifCond .le 7, 3) := by decide +kernel
theorem dX8_decode_196 : decode cX8_decode 196 = .ok (.aload_n 0, 1) := by decide +kernel
theorem dX8_decode_197 : decode cX8_decode 197 = .ok (.invokevirtual 204, 3) := by decide +kernel
theorem dX8_decode_200 : decode cX8_decode 200 = .ok (.aload_n 0, 1) := by decide +kernel
theorem dX8_decode_201 : decode cX8_decode 201 = .ok (.aload_n 0, 1) := by decide +kernel
theorem dX8_decode_202 : decode cX8_decode 202 = .ok (.getfield 88, 3) := by decide +kernel
theorem dX8_decode_205 : decode cX8_decode 205 = .ok (.aload_n 0, 1) := by decide +kernel
theorem dX8_decode_206 : decode cX8_decode 206 = .ok (.getfield 40, 3) := by decide +kernel
theorem dX8_decode_209 : decode cX8_decode 209 = .ok (.if_icmp .le 15, 3) := by decide +kernel
theorem dX8_decode_212 : decode cX8_decode 212 = .ok (.aload_n 0, 1) := by decide +kernel
theorem dX8_decode_213 : decode cX8_decode 213 = .ok (.getfield 88, 3) := by decide +kernel
theorem dX8_decode_216 : decode cX8_decode 216 = .ok (.aload_n 0, 1) := by decide +kernel
theorem dX8_decode_217 : decode cX8_decode 217 = .ok (.getfield 40, 3) := by decide +kernel
theorem dX8_decode_220 : decode cX8_decode 220 = .ok (.isub, 1) := by decide +kernel
theorem dX8_decode_221 : decode cX8_decode 221 = .ok (.goto 4, 3) := by decide +kernel
theorem dX8_decode_224 : decode cX8_decode 224 = .ok (.iconst 0, 1) := by decide +kernel
theorem dX8_decode_225 : decode cX8_decode 225 = .ok (.putfield 207, 3) := by decide +kernel
theorem dX8_decode_228 : decode cX8_decode 228 = .ok (.aload_n 0, 1) := by decide +kernel
theorem dX8_decode_229 : decode cX8_decode 229 = .ok (.getfield 124, 3) := by decide +kernel
theorem dX8_decode_232 : decode cX8_decode 232 = .ok (.aload_n 0, 1) := by decide +kernel
theorem dX8_decode_233 : decode cX8_decode 233 = .ok (.getfield 185, 3) := by decide +kernel
theorem dX8_decode_236 : decode cX8_decode 236 = .ok (.imul, 1) := by decide +kernel
theorem dX8_decode_237 : decode cX8_decode 237 = .ok (.ireturn, 1) := by decide +kernel
theorem dX8_sample_0 : decode cX8_sample 0 = .ok (.aload_n 0, 1) := by decide +kernel
theorem dX8_sample_1 : decode cX8_sample 1 = .ok (.iconst 0, 1) := by decide +kernel
theorem dX8_sample_2 : decode cX8_sample 2 = .ok (.putfield 32, 3) := by decide +kernel
theorem dX8_sample_5 : decode cX8_sample 5 = .ok (.iload_n 1, 1) := by decide +kernel
theorem dX8_sample_6 : decode cX8_sample 6 = .ok (.iconst 0, 1) := by decide +kernel
theorem dX8_sample_7 : decode cX8_sample 7 = .ok (.iconst 4, 1) := by decide +kernel
end
section
theorem dX8_sample_8 : decode cX8_sample 8 = .ok (.aload_n 0, 1) := by decide +kernel
theorem dX8_sample_9 : decode cX8_sample 9 = .ok (.getfield 124, 3) := by decide +kernel
theorem dX8_sample_12 : decode cX8_sample 12 = .ok (.imul, 1) := by decide +kernel
theorem dX8_sample_13 : decode cX8_sample 13 = .ok (.iconst 1, 1) := by decide +kernel
theorem dX8_sample_14 : decode cX8_sample 14 = .ok (.isub, 1) := by decide +kernel
theorem dX8_sample_15 : decode cX8_sample 15 = .ok (.invokestatic 36, 3) := by decide +kernel
theorem dX8_sample_18 : decode cX8_sample 18 = .ok (.ifCond .eq 33, 3) := by decide +kernel
theorem dX8_sample_21 : decode cX8_sample 21 = .ok (.iload_n 2, 1) := by decide +kernel
theorem dX8_sample_22 : decode cX8_sample 22 = .ok (.iconst 0, 1) := by decide +kernel
theorem dX8_sample_23 : decode cX8_sample 23 = .ok (.iconst 4, 1) := by decide +kernel
theorem dX8_sample_24 : decode cX8_sample 24 = .ok (.aload_n 0, 1) := by decide +kernel
theorem dX8_sample_25 : decode cX8_sample 25 = .ok (.getfield 185, 3) := by decide +kernel
theorem dX8_sample_28 : decode cX8_sample 28 = .ok (.imul, 1) := by decide +kernel
theorem dX8_sample_29 : decode cX8_sample 29 = .ok (.iconst 1, 1) := by decide +kernel
theorem dX8_sample_30 : decode cX8_sample 30 = .ok (.isub, 1) := by decide +kernel
theorem dX8_sample_31 : decode cX8_sample 31 = .ok (.invokestatic 36, 3) := by decide +kernel
theorem dX8_sample_34 : decode cX8_sample 34 = .ok (.ifCond .eq 17, 3) := by decide +kernel
theorem dX8_sample_37 : decode cX8_sample 37 = .ok (.aload_n 0, 1) := by decide +kernel
theorem dX8_sample_38 : decode cX8_sample 38 = .ok (.getfield 25, 3) := by decide +kernel
theorem dX8_sample_41 : decode cX8_sample 41 = .ok (.bipush 16, 2) := by decide +kernel
theorem dX8_sample_43 : decode cX8_sample 43 = .ok (.iload_n 2, 1) := by decide +kernel
theorem dX8_sample_44 : decode cX8_sample 44 = .ok (.imul, 1) := by decide +kernel
theorem dX8_sample_45 : decode cX8_sample 45 = .ok (.iload_n 1, 1) := by decide +kernel
theorem dX8_sample_46 : decode cX8_sample 46 = .ok (.iadd, 1) := by decide +kernel
theorem dX8_sample_47 : decode cX8_sample 47 = .ok (.iaload, 1) := by decide +kernel
theorem dX8_sample_48 : decode cX8_sample 48 = .ok (.goto 4, 3) := by decide +kernel
theorem dX8_sample_51 : decode cX8_sample 51 = .ok (.iconst (-1), 1) := by decide +kernel
theorem dX8_sample_52 : decode cX8_sample 52 = .ok (.ireturn, 1) := by decide +kernel
theorem dX8_block_0 : decode cX8_block 0 = .ok (.aload_n 0, 1) := by decide +kernel
theorem dX8_block_1 : decode cX8_block 1 = .ok (.iload_n 2, 1) := by decide +kernel
theorem dX8_block_2 : decode cX8_block 2 = .ok (.iconst 0, 1) := by decide +kernel
theorem dX8_block_3 : decode cX8_block 3 = .ok (.bipush 17, 2) := by decide +kernel
theorem dX8_block_5 : decode cX8_block 5 = .ok (.invokestatic 36, 3) := by decide +kernel
theorem dX8_block_8 : decode cX8_block 8 = .ok (.ifCond .eq 7, 3) := by decide +kernel
theorem dX8_block_11 : decode cX8_block 11 = .ok (.iconst 0, 1) := by decide +kernel
theorem dX8_block_12 : decode cX8_block 12 = .ok (.goto 4, 3) := by decide +kernel
theorem dX8_block_15 : decode cX8_block 15 = .ok (.iconst 1, 1) := by decide +kernel
theorem dX8_block_16 : decode cX8_block 16 = .ok (.invokevirtual 43, 3) := by decide +kernel
theorem dX8_block_19 : decode cX8_block 19 = .ok (.ifCond .eq 5, 3) := by decide +kernel
theorem dX8_block_22 : decode cX8_block 22 = .ok (.iconst 0, 1) := by decide +kernel
theorem dX8_block_23 : decode cX8_block 23 = .ok (.ireturn, 1) := by decide +kernel
theorem dX8_block_24 : decode cX8_block 24 = .ok (.iload_n 1, 1) := by decide +kernel
theorem dX8_block_25 : decode cX8_block 25 = .ok (.iconst 0, 1) := by decide +kernel
theorem dX8_block_26 : decode cX8_block 26 = .ok (.aload_n 0, 1) := by decide +kernel
theorem dX8_block_27 : decode cX8_block 27 = .ok (.getfield 124, 3) := by decide +kernel
theorem dX8_block_30 : decode cX8_block 30 = .ok (.aload_n 0, 1) := by decide +kernel
theorem dX8_block_31 : decode cX8_block 31 = .ok (.getfield 185, 3) := by decide +kernel
theorem dX8_block_34 : decode cX8_block 34 = .ok (.imul, 1) := by decide +kernel
theorem dX8_block_35 : decode cX8_block 35 = .ok (.iconst 1, 1) := by decide +kernel
theorem dX8_block_36 : decode cX8_block 36 = .ok (.isub, 1) := by decide +kernel
theorem dX8_block_37 : decode cX8_block 37 = .ok (.invokestatic 36, 3) := by decide +kernel
theorem dX8_block_40 : decode cX8_block 40 = .ok (.ifCond .ne 14, 3) := by decide +kernel
theorem dX8_block_43 : decode cX8_block 43 = .ok (.iload_n 2, 1) := by decide +kernel
theorem dX8_block_44 : decode cX8_block 44 = .ok (.iconst 2, 1) := by decide +kernel
theorem dX8_block_45 : decode cX8_block 45 = .ok (.if_icmp .ge 7, 3) := by decide +kernel
theorem dX8_block_48 : decode cX8_block 48 = .ok (.iconst (-1), 1) := by decide +kernel
theorem dX8_block_49 : decode cX8_block 49 = .ok (.goto 4, 3) := by decide +kernel
theorem dX8_block_52 : decode cX8_block 52 = .ok (.iconst 0, 1) := by decide +kernel
theorem dX8_block_53 : decode cX8_block 53 = .ok (.ireturn, 1) := by decide +kernel
theorem dX8_block_54 : decode cX8_block 54 = .ok (.iload_n 2, 1) := by decide +kernel
theorem dX8_block_55 : decode cX8_block 55 = .ok (.ifCond .ne 12, 3) := by decide +kernel
theorem dX8_block_58 : decode cX8_block 58 = .ok (.aload_n 0, 1) := by decide +kernel
theorem dX8_block_59 : decode cX8_block 59 = .ok (.getfield 16, 3) := by decide +kernel
theorem dX8_block_62 : decode cX8_block 62 = .ok (.iload_n 1, 1) := by decide +kernel
theorem dX8_block_63 : decode cX8_block 63 = .ok (.iaload, 1) := by decide +kernel
theorem dX8_block_64 : decode cX8_block 64 = .ok (.goto 30, 3) := by decide +kernel
theorem dX8_block_67 : decode cX8_block 67 = .ok (.iload_n 2, 1) := by decide +kernel
theorem dX8_block_68 : decode cX8_block 68 = .ok (.iconst 1, 1) := by decide +kernel
theorem dX8_block_69 : decode cX8_block 69 = .ok (.if_icmp .ne 12, 3) := by decide +kernel
theorem dX8_block_72 : decode cX8_block 72 = .ok (.aload_n 0, 1) := by decide +kernel
theorem dX8_block_73 : decode cX8_block 73 = .ok (.getfield 19, 3) := by decide +kernel
theorem dX8_block_76 : decode cX8_block 76 = .ok (.iload_n 1, 1) := by decide +kernel
theorem dX8_block_77 : decode cX8_block 77 = .ok (.iaload, 1) := by decide +kernel
theorem dX8_block_78 : decode cX8_block 78 = .ok (.goto 16, 3) := by decide +kernel
theorem dX8_block_81 : decode cX8_block 81 = .ok (.aload_n 0, 1) := by decide +kernel
theorem dX8_block_82 : decode cX8_block 82 = .ok (.getfield 22, 3) := by decide +kernel
theorem dX8_block_85 : decode cX8_block 85 = .ok (.bipush 16, 2) := by decide +kernel
theorem dX8_block_87 : decode cX8_block 87 = .ok (.iload_n 1, 1) := by decide +kernel
theorem dX8_block_88 : decode cX8_block 88 = .ok (.imul, 1) := by decide +kernel
theorem dX8_block_89 : decode cX8_block 89 = .ok (.iload_n 2, 1) := by decide +kernel
theorem dX8_block_90 : decode cX8_block 90 = .ok (.iadd, 1) := by decide +kernel
theorem dX8_block_91 : decode cX8_block 91 = .ok (.iconst 2, 1) := by decide +kernel
theorem dX8_block_92 : decode cX8_block 92 = .ok (.isub, 1) := by decide +kernel
theorem dX8_block_93 : decode cX8_block 93 = .ok (.iaload, 1) := by decide +kernel
theorem dX8_block_94 : decode cX8_block 94 = .ok (.ireturn, 1) := by decide +kernel
theorem dX8_count_0 : decode cX8_count 0 = .ok (.aload_n 0, 1) := by decide +kernel
theorem dX8_count_1 : decode cX8_count 1 = .ok (.iload_n 1, 1) := by decide +kernel
theorem dX8_count_2 : decode cX8_count 2 = .ok (.iconst 0, 1) := by decide +kernel
theorem dX8_count_3 : decode cX8_count 3 = .ok (.bipush 6, 2) := by decide +kernel
theorem dX8_count_5 : decode cX8_count 5 = .ok (.invokestatic 36, 3) := by decide +kernel
theorem dX8_count_8 : decode cX8_count 8 = .ok (.ifCond .eq 7, 3) := by decide +kernel
theorem dX8_count_11 : decode cX8_count 11 = .ok (.iconst 0, 1) := by decide +kernel
theorem dX8_count_12 : decode cX8_count 12 = .ok (.goto 4, 3) := by decide +kernel
theorem dX8_count_15 : decode cX8_count 15 = .ok (.iconst 1, 1) := by decide +kernel
theorem dX8_count_16 : decode cX8_count 16 = .ok (.invokevirtual 43, 3) := by decide +kernel
theorem dX8_count_19 : decode cX8_count 19 = .ok (.ifCond .eq 5, 3) := by decide +kernel
theorem dX8_count_22 : decode cX8_count 22 = .ok (.iconst 0, 1) := by decide +kernel
theorem dX8_count_23 : decode cX8_count 23 = .ok (.ireturn, 1) := by decide +kernel
theorem dX8_count_24 : decode cX8_count 24 = .ok (.iload_n 1, 1) := by decide +kernel
theorem dX8_count_25 : decode cX8_count 25 = .ok (.tableswitch 69 0 5 #[39, 44, 49, 54, 59, 64], 39) := by decide +kernel
theorem dX8_count_64 : decode cX8_count 64 = .ok (.aload_n 0, 1) := by decide +kernel
theorem dX8_count_65 : decode cX8_count 65 = .ok (.getfield 124, 3) := by decide +kernel
theorem dX8_count_68 : decode cX8_count 68 = .ok (.ireturn, 1) := by decide +kernel
theorem dX8_count_69 : decode cX8_count 69 = .ok (.aload_n 0, 1) := by decide +kernel
theorem dX8_count_70 : decode cX8_count 70 = .ok (.getfield 185, 3) := by decide +kernel
theorem dX8_count_73 : decode cX8_count 73 = .ok (.ireturn, 1) := by decide +kernel
theorem dX8_count_74 : decode cX8_count 74 = .ok (.aload_n 0, 1) := by decide +kernel
theorem dX8_count_75 : decode cX8_count 75 = .ok (.getfield 147, 3) := by decide +kernel
theorem dX8_count_78 : decode cX8_count 78 = .ok (.ireturn, 1) := by decide +kernel
theorem dX8_count_79 : decode cX8_count 79 = .ok (.aload_n 0, 1) := by decide +kernel
theorem dX8_count_80 : decode cX8_count 80 = .ok (.getfield 176, 3) := by decide +kernel
theorem dX8_count_83 : decode cX8_count 83 = .ok (.ireturn, 1) := by decide +kernel
theorem dX8_count_84 : decode cX8_count 84 = .ok (.aload_n 0, 1) := by decide +kernel
theorem dX8_count_85 : decode cX8_count 85 = .ok (.getfield 191, 3) := by decide +kernel
theorem dX8_count_88 : decode cX8_count 88 = .ok (.ireturn, 1) := by decide +kernel
theorem dX8_count_89 : decode cX8_count 89 = .ok (.aload_n 0, 1) := by decide +kernel
theorem dX8_count_90 : decode cX8_count 90 = .ok (.getfield 207, 3) := by decide +kernel
theorem dX8_count_93 : decode cX8_count 93 = .ok (.ireturn, 1) := by decide +kernel
theorem dX8_count_94 : decode cX8_count 94 = .ok (.aload_n 0, 1) := by decide +kernel
theorem dX8_count_95 : decode cX8_count 95 = .ok (.getfield 182, 3) := by decide +kernel
theorem dX8_count_98 : decode cX8_count 98 = .ok (.ireturn, 1) := by decide +kernel
theorem dL_feed_0 : decode cL_feed 0 = .ok (.aload 6, 2) := by decide +kernel
theorem dL_feed_2 : decode cL_feed 2 = .ok (.iconst 0, 1) := by decide +kernel
theorem dL_feed_3 : decode cL_feed 3 = .ok (.aload_n 0, 1) := by decide +kernel
theorem dL_feed_4 : decode cL_feed 4 = .ok (.iload_n 1, 1) := by decide +kernel
theorem dL_feed_5 : decode cL_feed 5 = .ok (.iload_n 2, 1) := by decide +kernel
theorem dL_feed_6 : decode cL_feed 6 = .ok (.iload_n 3, 1) := by decide +kernel
theorem dL_feed_7 : decode cL_feed 7 = .ok (.iload 4, 2) := by decide +kernel
theorem dL_feed_9 : decode cL_feed 9 = .ok (.iload 5, 2) := by decide +kernel
theorem dL_feed_11 : decode cL_feed 11 = .ok (.invokevirtual 7, 3) := by decide +kernel
theorem dL_feed_14 : decode cL_feed 14 = .ok (.i2l, 1) := by decide +kernel
theorem dL_feed_15 : decode cL_feed 15 = .ok (.lastore, 1) := by decide +kernel
theorem dL_feed_16 : decode cL_feed 16 = .ok (.goto 11, 3) := by decide +kernel
theorem dL_feed_19 : decode cL_feed 19 = .ok (.astore 7, 2) := by decide +kernel
theorem dL_feed_21 : decode cL_feed 21 = .ok (.iconst 1, 1) := by decide +kernel
theorem dL_feed_22 : decode cL_feed 22 = .ok (.ireturn, 1) := by decide +kernel
theorem dL_feed_23 : decode cL_feed 23 = .ok (.astore 7, 2) := by decide +kernel
theorem dL_feed_25 : decode cL_feed 25 = .ok (.iconst 2, 1) := by decide +kernel
theorem dL_feed_26 : decode cL_feed 26 = .ok (.ireturn, 1) := by decide +kernel
theorem dL_feed_27 : decode cL_feed 27 = .ok (.iconst 0, 1) := by decide +kernel
theorem dL_feed_28 : decode cL_feed 28 = .ok (.ireturn, 1) := by decide +kernel
theorem dL_put_0 : decode cL_put 0 = .ok (.aload 4, 2) := by decide +kernel
theorem dL_put_2 : decode cL_put 2 = .ok (.iconst 0, 1) := by decide +kernel
theorem dL_put_3 : decode cL_put 3 = .ok (.aload_n 0, 1) := by decide +kernel
theorem dL_put_4 : decode cL_put 4 = .ok (.iload_n 1, 1) := by decide +kernel
theorem dL_put_5 : decode cL_put 5 = .ok (.iload_n 2, 1) := by decide +kernel
theorem dL_put_6 : decode cL_put 6 = .ok (.iload_n 3, 1) := by decide +kernel
theorem dL_put_7 : decode cL_put 7 = .ok (.invokevirtual 17, 3) := by decide +kernel
theorem dL_put_10 : decode cL_put 10 = .ok (.i2l, 1) := by decide +kernel
theorem dL_put_11 : decode cL_put 11 = .ok (.lastore, 1) := by decide +kernel
theorem dL_put_12 : decode cL_put 12 = .ok (.goto 11, 3) := by decide +kernel
theorem dL_put_15 : decode cL_put 15 = .ok (.astore 5, 2) := by decide +kernel
theorem dL_put_17 : decode cL_put 17 = .ok (.iconst 1, 1) := by decide +kernel
theorem dL_put_18 : decode cL_put 18 = .ok (.ireturn, 1) := by decide +kernel
theorem dL_put_19 : decode cL_put 19 = .ok (.astore 5, 2) := by decide +kernel
theorem dL_put_21 : decode cL_put 21 = .ok (.iconst 2, 1) := by decide +kernel
theorem dL_put_22 : decode cL_put 22 = .ok (.ireturn, 1) := by decide +kernel
theorem dL_put_23 : decode cL_put 23 = .ok (.iconst 0, 1) := by decide +kernel
theorem dL_put_24 : decode cL_put 24 = .ok (.ireturn, 1) := by decide +kernel
theorem dL_end_0 : decode cL_end 0 = .ok (.aload_n 1, 1) := by decide +kernel
theorem dL_end_1 : decode cL_end 1 = .ok (.iconst 0, 1) := by decide +kernel
theorem dL_end_2 : decode cL_end 2 = .ok (.aload_n 0, 1) := by decide +kernel
theorem dL_end_3 : decode cL_end 3 = .ok (.invokevirtual 21, 3) := by decide +kernel
theorem dL_end_6 : decode cL_end 6 = .ok (.i2l, 1) := by decide +kernel
theorem dL_end_7 : decode cL_end 7 = .ok (.lastore, 1) := by decide +kernel
theorem dL_end_8 : decode cL_end 8 = .ok (.goto 6, 3) := by decide +kernel
theorem dL_end_11 : decode cL_end 11 = .ok (.astore_n 2, 1) := by decide +kernel
theorem dL_end_12 : decode cL_end 12 = .ok (.iconst 1, 1) := by decide +kernel
theorem dL_end_13 : decode cL_end 13 = .ok (.ireturn, 1) := by decide +kernel
theorem dL_end_14 : decode cL_end 14 = .ok (.iconst 0, 1) := by decide +kernel
theorem dL_end_15 : decode cL_end 15 = .ok (.ireturn, 1) := by decide +kernel
theorem dL_get_0 : decode cL_get 0 = .ok (.aload_n 3, 1) := by decide +kernel
theorem dL_get_1 : decode cL_get 1 = .ok (.iconst 0, 1) := by decide +kernel
theorem dL_get_2 : decode cL_get 2 = .ok (.aload_n 0, 1) := by decide +kernel
theorem dL_get_3 : decode cL_get 3 = .ok (.iload_n 1, 1) := by decide +kernel
theorem dL_get_4 : decode cL_get 4 = .ok (.iload_n 2, 1) := by decide +kernel
theorem dL_get_5 : decode cL_get 5 = .ok (.invokevirtual 25, 3) := by decide +kernel
theorem dL_get_8 : decode cL_get 8 = .ok (.i2l, 1) := by decide +kernel
theorem dL_get_9 : decode cL_get 9 = .ok (.lastore, 1) := by decide +kernel
theorem dL_get_10 : decode cL_get 10 = .ok (.goto 11, 3) := by decide +kernel
theorem dL_get_13 : decode cL_get 13 = .ok (.astore 4, 2) := by decide +kernel
theorem dL_get_15 : decode cL_get 15 = .ok (.iconst 1, 1) := by decide +kernel
theorem dL_get_16 : decode cL_get 16 = .ok (.ireturn, 1) := by decide +kernel
theorem dL_get_17 : decode cL_get 17 = .ok (.astore 4, 2) := by decide +kernel
theorem dL_get_19 : decode cL_get 19 = .ok (.iconst 2, 1) := by decide +kernel
theorem dL_get_20 : decode cL_get 20 = .ok (.ireturn, 1) := by decide +kernel
theorem dL_get_21 : decode cL_get 21 = .ok (.iconst 0, 1) := by decide +kernel
theorem dL_get_22 : decode cL_get 22 = .ok (.ireturn, 1) := by decide +kernel
theorem dL_block_0 : decode cL_block 0 = .ok (.aload_n 3, 1) := by decide +kernel
theorem dL_block_1 : decode cL_block 1 = .ok (.iconst 0, 1) := by decide +kernel
theorem dL_block_2 : decode cL_block 2 = .ok (.aload_n 0, 1) := by decide +kernel
theorem dL_block_3 : decode cL_block 3 = .ok (.iload_n 1, 1) := by decide +kernel
theorem dL_block_4 : decode cL_block 4 = .ok (.iload_n 2, 1) := by decide +kernel
theorem dL_block_5 : decode cL_block 5 = .ok (.invokevirtual 29, 3) := by decide +kernel
theorem dL_block_8 : decode cL_block 8 = .ok (.i2l, 1) := by decide +kernel
theorem dL_block_9 : decode cL_block 9 = .ok (.lastore, 1) := by decide +kernel
theorem dL_block_10 : decode cL_block 10 = .ok (.goto 7, 3) := by decide +kernel
theorem dL_block_13 : decode cL_block 13 = .ok (.astore 4, 2) := by decide +kernel
theorem dL_block_15 : decode cL_block 15 = .ok (.iconst 1, 1) := by decide +kernel
theorem dL_block_16 : decode cL_block 16 = .ok (.ireturn, 1) := by decide +kernel
theorem dL_block_17 : decode cL_block 17 = .ok (.iconst 0, 1) := by decide +kernel
theorem dL_block_18 : decode cL_block 18 = .ok (.ireturn, 1) := by decide +kernel
theorem dL_count_0 : decode cL_count 0 = .ok (.aload_n 2, 1) := by decide +kernel
theorem dL_count_1 : decode cL_count 1 = .ok (.iconst 0, 1) := by decide +kernel
theorem dL_count_2 : decode cL_count 2 = .ok (.aload_n 0, 1) := by decide +kernel
theorem dL_count_3 : decode cL_count 3 = .ok (.iload_n 1, 1) := by decide +kernel
theorem dL_count_4 : decode cL_count 4 = .ok (.invokevirtual 32, 3) := by decide +kernel
theorem dL_count_7 : decode cL_count 7 = .ok (.i2l, 1) := by decide +kernel
theorem dL_count_8 : decode cL_count 8 = .ok (.lastore, 1) := by decide +kernel
theorem dL_count_9 : decode cL_count 9 = .ok (.goto 6, 3) := by decide +kernel
theorem dL_count_12 : decode cL_count 12 = .ok (.astore_n 3, 1) := by decide +kernel
theorem dL_count_13 : decode cL_count 13 = .ok (.iconst 1, 1) := by decide +kernel
theorem dL_count_14 : decode cL_count 14 = .ok (.ireturn, 1) := by decide +kernel
theorem dL_count_15 : decode cL_count 15 = .ok (.iconst 0, 1) := by decide +kernel
theorem dL_count_16 : decode cL_count 16 = .ok (.ireturn, 1) := by decide +kernel
theorem dL_law_0 : decode cL_law 0 = .ok (.new 8, 3) := by decide +kernel
theorem dL_law_3 : decode cL_law 3 = .ok (.dup, 1) := by decide +kernel
theorem dL_law_4 : decode cL_law 4 = .ok (.invokespecial 36, 3) := by decide +kernel
theorem dL_law_7 : decode cL_law 7 = .ok (.astore_n 1, 1) := by decide +kernel
theorem dL_law_8 : decode cL_law 8 = .ok (.new 37, 3) := by decide +kernel
theorem dL_law_11 : decode cL_law 11 = .ok (.dup, 1) := by decide +kernel
theorem dL_law_12 : decode cL_law 12 = .ok (.invokespecial 39, 3) := by decide +kernel
theorem dL_law_15 : decode cL_law 15 = .ok (.astore_n 2, 1) := by decide +kernel
theorem dL_law_16 : decode cL_law 16 = .ok (.iconst 1, 1) := by decide +kernel
theorem dL_law_17 : decode cL_law 17 = .ok (.newarray .long, 2) := by decide +kernel
theorem dL_law_19 : decode cL_law 19 = .ok (.astore_n 3, 1) := by decide +kernel
theorem dL_law_20 : decode cL_law 20 = .ok (.iconst 0, 1) := by decide +kernel
theorem dL_law_21 : decode cL_law 21 = .ok (.istore 4, 2) := by decide +kernel
theorem dL_law_23 : decode cL_law 23 = .ok (.iload 4, 2) := by decide +kernel
theorem dL_law_25 : decode cL_law 25 = .ok (.aload_n 0, 1) := by decide +kernel
theorem dL_law_26 : decode cL_law 26 = .ok (.arraylength, 1) := by decide +kernel
theorem dL_law_27 : decode cL_law 27 = .ok (.bipush 6, 2) := by decide +kernel
theorem dL_law_29 : decode cL_law 29 = .ok (.isub, 1) := by decide +kernel
theorem dL_law_30 : decode cL_law 30 = .ok (.if_icmp .gt 442, 3) := by decide +kernel
theorem dL_law_33 : decode cL_law 33 = .ok (.aload_n 0, 1) := by decide +kernel
theorem dL_law_34 : decode cL_law 34 = .ok (.iload 4, 2) := by decide +kernel
theorem dL_law_36 : decode cL_law 36 = .ok (.iaload, 1) := by decide +kernel
theorem dL_law_37 : decode cL_law 37 = .ok (.bipush 15, 2) := by decide +kernel
theorem dL_law_39 : decode cL_law 39 = .ok (.iand, 1) := by decide +kernel
theorem dL_law_40 : decode cL_law 40 = .ok (.tableswitch 426 0 11 #[64, 140, 153, 164, 216, 232, 243, 283, 296, 333, 373, 401], 64) := by decide +kernel
theorem dL_law_104 : decode cL_law 104 = .ok (.aload_n 1, 1) := by decide +kernel
theorem dL_law_105 : decode cL_law 105 = .ok (.aload_n 0, 1) := by decide +kernel
theorem dL_law_106 : decode cL_law 106 = .ok (.iload 4, 2) := by decide +kernel
theorem dL_law_108 : decode cL_law 108 = .ok (.iconst 1, 1) := by decide +kernel
theorem dL_law_109 : decode cL_law 109 = .ok (.iadd, 1) := by decide +kernel
theorem dL_law_110 : decode cL_law 110 = .ok (.iaload, 1) := by decide +kernel
theorem dL_law_111 : decode cL_law 111 = .ok (.aload_n 0, 1) := by decide +kernel
theorem dL_law_112 : decode cL_law 112 = .ok (.iload 4, 2) := by decide +kernel
theorem dL_law_114 : decode cL_law 114 = .ok (.iconst 2, 1) := by decide +kernel
theorem dL_law_115 : decode cL_law 115 = .ok (.iadd, 1) := by decide +kernel
theorem dL_law_116 : decode cL_law 116 = .ok (.iaload, 1) := by decide +kernel
theorem dL_law_117 : decode cL_law 117 = .ok (.aload_n 0, 1) := by decide +kernel
theorem dL_law_118 : decode cL_law 118 = .ok (.iload 4, 2) := by decide +kernel
theorem dL_law_120 : decode cL_law 120 = .ok (.iconst 3, 1) := by decide +kernel
theorem dL_law_121 : decode cL_law 121 = .ok (.iadd, 1) := by decide +kernel
theorem dL_law_122 : decode cL_law 122 = .ok (.iaload, 1) := by decide +kernel
theorem dL_law_123 : decode cL_law 123 = .ok (.aload_n 0, 1) := by decide +kernel
theorem dL_law_124 : decode cL_law 124 = .ok (.iload 4, 2) := by decide +kernel
theorem dL_law_126 : decode cL_law 126 = .ok (.iconst 4, 1) := by decide +kernel
theorem dL_law_127 : decode cL_law 127 = .ok (.iadd, 1) := by decide +kernel
theorem dL_law_128 : decode cL_law 128 = .ok (.iaload, 1) := by decide +kernel
theorem dL_law_129 : decode cL_law 129 = .ok (.aload_n 0, 1) := by decide +kernel
theorem dL_law_130 : decode cL_law 130 = .ok (.iload 4, 2) := by decide +kernel
theorem dL_law_132 : decode cL_law 132 = .ok (.iconst 5, 1) := by decide +kernel
theorem dL_law_133 : decode cL_law 133 = .ok (.iadd, 1) := by decide +kernel
theorem dL_law_134 : decode cL_law 134 = .ok (.iaload, 1) := by decide +kernel
theorem dL_law_135 : decode cL_law 135 = .ok (.aload_n 3, 1) := by decide +kernel
theorem dL_law_136 : decode cL_law 136 = .ok (.invokestatic 40, 3) := by decide +kernel
theorem dL_law_139 : decode cL_law 139 = .ok (.istore 5, 2) := by decide +kernel
theorem dL_law_141 : decode cL_law 141 = .ok (.aload_n 2, 1) := by decide +kernel
theorem dL_law_142 : decode cL_law 142 = .ok (.aload_n 0, 1) := by decide +kernel
theorem dL_law_143 : decode cL_law 143 = .ok (.iload 4, 2) := by decide +kernel
theorem dL_law_145 : decode cL_law 145 = .ok (.iconst 1, 1) := by decide +kernel
theorem dL_law_146 : decode cL_law 146 = .ok (.iadd, 1) := by decide +kernel
theorem dL_law_147 : decode cL_law 147 = .ok (.iaload, 1) := by decide +kernel
theorem dL_law_148 : decode cL_law 148 = .ok (.aload_n 0, 1) := by decide +kernel
theorem dL_law_149 : decode cL_law 149 = .ok (.iload 4, 2) := by decide +kernel
theorem dL_law_151 : decode cL_law 151 = .ok (.iconst 2, 1) := by decide +kernel
theorem dL_law_152 : decode cL_law 152 = .ok (.iadd, 1) := by decide +kernel
theorem dL_law_153 : decode cL_law 153 = .ok (.iaload, 1) := by decide +kernel
theorem dL_law_154 : decode cL_law 154 = .ok (.aload_n 0, 1) := by decide +kernel
theorem dL_law_155 : decode cL_law 155 = .ok (.iload 4, 2) := by decide +kernel
theorem dL_law_157 : decode cL_law 157 = .ok (.iconst 3, 1) := by decide +kernel
theorem dL_law_158 : decode cL_law 158 = .ok (.iadd, 1) := by decide +kernel
theorem dL_law_159 : decode cL_law 159 = .ok (.iaload, 1) := by decide +kernel
theorem dL_law_160 : decode cL_law 160 = .ok (.aload_n 0, 1) := by decide +kernel
theorem dL_law_161 : decode cL_law 161 = .ok (.iload 4, 2) := by decide +kernel
theorem dL_law_163 : decode cL_law 163 = .ok (.iconst 4, 1) := by decide +kernel
theorem dL_law_164 : decode cL_law 164 = .ok (.iadd, 1) := by decide +kernel
theorem dL_law_165 : decode cL_law 165 = .ok (.iaload, 1) := by decide +kernel
theorem dL_law_166 : decode cL_law 166 = .ok (.aload_n 0, 1) := by decide +kernel
theorem dL_law_167 : decode cL_law 167 = .ok (.iload 4, 2) := by decide +kernel
theorem dL_law_169 : decode cL_law 169 = .ok (.iconst 5, 1) := by decide +kernel
theorem dL_law_170 : decode cL_law 170 = .ok (.iadd, 1) := by decide +kernel
theorem dL_law_171 : decode cL_law 171 = .ok (.iaload, 1) := by decide +kernel
theorem dL_law_172 : decode cL_law 172 = .ok (.invokevirtual 45, 3) := by decide +kernel
theorem dL_law_175 : decode cL_law 175 = .ok (.istore 6, 2) := by decide +kernel
theorem dL_law_177 : decode cL_law 177 = .ok (.goto 289, 3) := by decide +kernel
theorem dL_law_180 : decode cL_law 180 = .ok (.aload_n 1, 1) := by decide +kernel
theorem dL_law_181 : decode cL_law 181 = .ok (.invokevirtual 46, 3) := by decide +kernel
theorem dL_law_184 : decode cL_law 184 = .ok (.pop, 1) := by decide +kernel
theorem dL_law_185 : decode cL_law 185 = .ok (.aload_n 2, 1) := by decide +kernel
theorem dL_law_186 : decode cL_law 186 = .ok (.invokevirtual 49, 3) := by decide +kernel
theorem dL_law_189 : decode cL_law 189 = .ok (.pop, 1) := by decide +kernel
theorem dL_law_190 : decode cL_law 190 = .ok (.goto 276, 3) := by decide +kernel
theorem dL_law_193 : decode cL_law 193 = .ok (.aload_n 1, 1) := by decide +kernel
theorem dL_law_194 : decode cL_law 194 = .ok (.invokevirtual 50, 3) := by decide +kernel
theorem dL_law_197 : decode cL_law 197 = .ok (.aload_n 2, 1) := by decide +kernel
theorem dL_law_198 : decode cL_law 198 = .ok (.invokevirtual 53, 3) := by decide +kernel
theorem dL_law_201 : decode cL_law 201 = .ok (.goto 265, 3) := by decide +kernel
theorem dL_law_204 : decode cL_law 204 = .ok (.aload_n 1, 1) := by decide +kernel
theorem dL_law_205 : decode cL_law 205 = .ok (.aload_n 0, 1) := by decide +kernel
theorem dL_law_206 : decode cL_law 206 = .ok (.iload 4, 2) := by decide +kernel
theorem dL_law_208 : decode cL_law 208 = .ok (.iconst 1, 1) := by decide +kernel
theorem dL_law_209 : decode cL_law 209 = .ok (.iadd, 1) := by decide +kernel
theorem dL_law_210 : decode cL_law 210 = .ok (.iaload, 1) := by decide +kernel
theorem dL_law_211 : decode cL_law 211 = .ok (.aload_n 0, 1) := by decide +kernel
theorem dL_law_212 : decode cL_law 212 = .ok (.iload 4, 2) := by decide +kernel
theorem dL_law_214 : decode cL_law 214 = .ok (.iconst 2, 1) := by decide +kernel
theorem dL_law_215 : decode cL_law 215 = .ok (.iadd, 1) := by decide +kernel
theorem dL_law_216 : decode cL_law 216 = .ok (.iaload, 1) := by decide +kernel
theorem dL_law_217 : decode cL_law 217 = .ok (.aload_n 0, 1) := by decide +kernel
theorem dL_law_218 : decode cL_law 218 = .ok (.iload 4, 2) := by decide +kernel
theorem dL_law_220 : decode cL_law 220 = .ok (.iconst 3, 1) := by decide +kernel
theorem dL_law_221 : decode cL_law 221 = .ok (.iadd, 1) := by decide +kernel
theorem dL_law_222 : decode cL_law 222 = .ok (.iaload, 1) := by decide +kernel
theorem dL_law_223 : decode cL_law 223 = .ok (.aload_n 3, 1) := by decide +kernel
theorem dL_law_224 : decode cL_law 224 = .ok (.invokestatic 54, 3) := by decide +kernel
theorem dL_law_227 : decode cL_law 227 = .ok (.istore 5, 2) := by decide +kernel
theorem dL_law_229 : decode cL_law 229 = .ok (.aload_n 2, 1) := by decide +kernel
theorem dL_law_230 : decode cL_law 230 = .ok (.aload_n 0, 1) := by decide +kernel
theorem dL_law_231 : decode cL_law 231 = .ok (.iload 4, 2) := by decide +kernel
theorem dL_law_233 : decode cL_law 233 = .ok (.iconst 1, 1) := by decide +kernel
theorem dL_law_234 : decode cL_law 234 = .ok (.iadd, 1) := by decide +kernel
theorem dL_law_235 : decode cL_law 235 = .ok (.iaload, 1) := by decide +kernel
theorem dL_law_236 : decode cL_law 236 = .ok (.aload_n 0, 1) := by decide +kernel
theorem dL_law_237 : decode cL_law 237 = .ok (.iload 4, 2) := by decide +kernel
theorem dL_law_239 : decode cL_law 239 = .ok (.iconst 2, 1) := by decide +kernel
theorem dL_law_240 : decode cL_law 240 = .ok (.iadd, 1) := by decide +kernel
theorem dL_law_241 : decode cL_law 241 = .ok (.iaload, 1) := by decide +kernel
theorem dL_law_242 : decode cL_law 242 = .ok (.aload_n 0, 1) := by decide +kernel
theorem dL_law_243 : decode cL_law 243 = .ok (.iload 4, 2) := by decide +kernel
theorem dL_law_245 : decode cL_law 245 = .ok (.iconst 3, 1) := by decide +kernel
theorem dL_law_246 : decode cL_law 246 = .ok (.iadd, 1) := by decide +kernel
theorem dL_law_247 : decode cL_law 247 = .ok (.iaload, 1) := by decide +kernel
theorem dL_law_248 : decode cL_law 248 = .ok (.invokevirtual 57, 3) := by decide +kernel
theorem dL_law_251 : decode cL_law 251 = .ok (.istore 6, 2) := by decide +kernel
theorem dL_law_253 : decode cL_law 253 = .ok (.goto 213, 3) := by decide +kernel
theorem dL_law_256 : decode cL_law 256 = .ok (.aload_n 1, 1) := by decide +kernel
theorem dL_law_257 : decode cL_law 257 = .ok (.aload_n 3, 1) := by decide +kernel
theorem dL_law_258 : decode cL_law 258 = .ok (.invokestatic 58, 3) := by decide +kernel
theorem dL_law_261 : decode cL_law 261 = .ok (.istore 5, 2) := by decide +kernel
theorem dL_law_263 : decode cL_law 263 = .ok (.aload_n 2, 1) := by decide +kernel
theorem dL_law_264 : decode cL_law 264 = .ok (.invokevirtual 61, 3) := by decide +kernel
theorem dL_law_267 : decode cL_law 267 = .ok (.istore 6, 2) := by decide +kernel
theorem dL_law_269 : decode cL_law 269 = .ok (.goto 197, 3) := by decide +kernel
theorem dL_law_272 : decode cL_law 272 = .ok (.aload_n 1, 1) := by decide +kernel
theorem dL_law_273 : decode cL_law 273 = .ok (.invokevirtual 62, 3) := by decide +kernel
theorem dL_law_276 : decode cL_law 276 = .ok (.aload_n 2, 1) := by decide +kernel
theorem dL_law_277 : decode cL_law 277 = .ok (.invokevirtual 65, 3) := by decide +kernel
theorem dL_law_280 : decode cL_law 280 = .ok (.goto 186, 3) := by decide +kernel
theorem dL_law_283 : decode cL_law 283 = .ok (.aload_n 1, 1) := by decide +kernel
theorem dL_law_284 : decode cL_law 284 = .ok (.aload_n 0, 1) := by decide +kernel
theorem dL_law_285 : decode cL_law 285 = .ok (.iload 4, 2) := by decide +kernel
theorem dL_law_287 : decode cL_law 287 = .ok (.iconst 1, 1) := by decide +kernel
theorem dL_law_288 : decode cL_law 288 = .ok (.iadd, 1) := by decide +kernel
theorem dL_law_289 : decode cL_law 289 = .ok (.iaload, 1) := by decide +kernel
theorem dL_law_290 : decode cL_law 290 = .ok (.aload_n 0, 1) := by decide +kernel
theorem dL_law_291 : decode cL_law 291 = .ok (.iload 4, 2) := by decide +kernel
theorem dL_law_293 : decode cL_law 293 = .ok (.iconst 2, 1) := by decide +kernel
theorem dL_law_294 : decode cL_law 294 = .ok (.iadd, 1) := by decide +kernel
theorem dL_law_295 : decode cL_law 295 = .ok (.iaload, 1) := by decide +kernel
theorem dL_law_296 : decode cL_law 296 = .ok (.aload_n 3, 1) := by decide +kernel
theorem dL_law_297 : decode cL_law 297 = .ok (.invokestatic 66, 3) := by decide +kernel
theorem dL_law_300 : decode cL_law 300 = .ok (.istore 5, 2) := by decide +kernel
theorem dL_law_302 : decode cL_law 302 = .ok (.aload_n 2, 1) := by decide +kernel
theorem dL_law_303 : decode cL_law 303 = .ok (.aload_n 0, 1) := by decide +kernel
theorem dL_law_304 : decode cL_law 304 = .ok (.iload 4, 2) := by decide +kernel
theorem dL_law_306 : decode cL_law 306 = .ok (.iconst 1, 1) := by decide +kernel
theorem dL_law_307 : decode cL_law 307 = .ok (.iadd, 1) := by decide +kernel
theorem dL_law_308 : decode cL_law 308 = .ok (.iaload, 1) := by decide +kernel
theorem dL_law_309 : decode cL_law 309 = .ok (.aload_n 0, 1) := by decide +kernel
theorem dL_law_310 : decode cL_law 310 = .ok (.iload 4, 2) := by decide +kernel
theorem dL_law_312 : decode cL_law 312 = .ok (.iconst 2, 1) := by decide +kernel
theorem dL_law_313 : decode cL_law 313 = .ok (.iadd, 1) := by decide +kernel
theorem dL_law_314 : decode cL_law 314 = .ok (.iaload, 1) := by decide +kernel
theorem dL_law_315 : decode cL_law 315 = .ok (.invokevirtual 69, 3) := by decide +kernel
theorem dL_law_318 : decode cL_law 318 = .ok (.istore 6, 2) := by decide +kernel
theorem dL_law_320 : decode cL_law 320 = .ok (.goto 146, 3) := by decide +kernel
theorem dL_law_323 : decode cL_law 323 = .ok (.aload_n 1, 1) := by decide +kernel
theorem dL_law_324 : decode cL_law 324 = .ok (.invokevirtual 70, 3) := by decide +kernel
theorem dL_law_327 : decode cL_law 327 = .ok (.pop, 1) := by decide +kernel
theorem dL_law_328 : decode cL_law 328 = .ok (.aload_n 2, 1) := by decide +kernel
theorem dL_law_329 : decode cL_law 329 = .ok (.invokevirtual 73, 3) := by decide +kernel
theorem dL_law_332 : decode cL_law 332 = .ok (.pop, 1) := by decide +kernel
theorem dL_law_333 : decode cL_law 333 = .ok (.goto 133, 3) := by decide +kernel
theorem dL_law_336 : decode cL_law 336 = .ok (.aload_n 1, 1) := by decide +kernel
theorem dL_law_337 : decode cL_law 337 = .ok (.aload_n 0, 1) := by decide +kernel
theorem dL_law_338 : decode cL_law 338 = .ok (.iload 4, 2) := by decide +kernel
theorem dL_law_340 : decode cL_law 340 = .ok (.iconst 1, 1) := by decide +kernel
theorem dL_law_341 : decode cL_law 341 = .ok (.iadd, 1) := by decide +kernel
theorem dL_law_342 : decode cL_law 342 = .ok (.iaload, 1) := by decide +kernel
theorem dL_law_343 : decode cL_law 343 = .ok (.aload_n 0, 1) := by decide +kernel
theorem dL_law_344 : decode cL_law 344 = .ok (.iload 4, 2) := by decide +kernel
theorem dL_law_346 : decode cL_law 346 = .ok (.iconst 2, 1) := by decide +kernel
theorem dL_law_347 : decode cL_law 347 = .ok (.iadd, 1) := by decide +kernel
theorem dL_law_348 : decode cL_law 348 = .ok (.iaload, 1) := by decide +kernel
theorem dL_law_349 : decode cL_law 349 = .ok (.invokevirtual 74, 3) := by decide +kernel
theorem dL_law_352 : decode cL_law 352 = .ok (.pop, 1) := by decide +kernel
theorem dL_law_353 : decode cL_law 353 = .ok (.aload_n 2, 1) := by decide +kernel
theorem dL_law_354 : decode cL_law 354 = .ok (.aload_n 0, 1) := by decide +kernel
theorem dL_law_355 : decode cL_law 355 = .ok (.iload 4, 2) := by decide +kernel
theorem dL_law_357 : decode cL_law 357 = .ok (.iconst 1, 1) := by decide +kernel
theorem dL_law_358 : decode cL_law 358 = .ok (.iadd, 1) := by decide +kernel
theorem dL_law_359 : decode cL_law 359 = .ok (.iaload, 1) := by decide +kernel
theorem dL_law_360 : decode cL_law 360 = .ok (.aload_n 0, 1) := by decide +kernel
theorem dL_law_361 : decode cL_law 361 = .ok (.iload 4, 2) := by decide +kernel
theorem dL_law_363 : decode cL_law 363 = .ok (.iconst 2, 1) := by decide +kernel
theorem dL_law_364 : decode cL_law 364 = .ok (.iadd, 1) := by decide +kernel
theorem dL_law_365 : decode cL_law 365 = .ok (.iaload, 1) := by decide +kernel
theorem dL_law_366 : decode cL_law 366 = .ok (.invokevirtual 77, 3) := by decide +kernel
theorem dL_law_369 : decode cL_law 369 = .ok (.pop, 1) := by decide +kernel
theorem dL_law_370 : decode cL_law 370 = .ok (.goto 96, 3) := by decide +kernel
theorem dL_law_373 : decode cL_law 373 = .ok (.aload_n 1, 1) := by decide +kernel
theorem dL_law_374 : decode cL_law 374 = .ok (.aload_n 0, 1) := by decide +kernel
theorem dL_law_375 : decode cL_law 375 = .ok (.iload 4, 2) := by decide +kernel
theorem dL_law_377 : decode cL_law 377 = .ok (.iconst 1, 1) := by decide +kernel
theorem dL_law_378 : decode cL_law 378 = .ok (.iadd, 1) := by decide +kernel
theorem dL_law_379 : decode cL_law 379 = .ok (.iaload, 1) := by decide +kernel
theorem dL_law_380 : decode cL_law 380 = .ok (.aload_n 0, 1) := by decide +kernel
theorem dL_law_381 : decode cL_law 381 = .ok (.iload 4, 2) := by decide +kernel
theorem dL_law_383 : decode cL_law 383 = .ok (.iconst 2, 1) := by decide +kernel
theorem dL_law_384 : decode cL_law 384 = .ok (.iadd, 1) := by decide +kernel
theorem dL_law_385 : decode cL_law 385 = .ok (.iaload, 1) := by decide +kernel
theorem dL_law_386 : decode cL_law 386 = .ok (.aload_n 3, 1) := by decide +kernel
theorem dL_law_387 : decode cL_law 387 = .ok (.invokestatic 78, 3) := by decide +kernel
theorem dL_law_390 : decode cL_law 390 = .ok (.istore 5, 2) := by decide +kernel
theorem dL_law_392 : decode cL_law 392 = .ok (.aload_n 2, 1) := by decide +kernel
theorem dL_law_393 : decode cL_law 393 = .ok (.aload_n 0, 1) := by decide +kernel
theorem dL_law_394 : decode cL_law 394 = .ok (.iload 4, 2) := by decide +kernel
theorem dL_law_396 : decode cL_law 396 = .ok (.iconst 1, 1) := by decide +kernel
theorem dL_law_397 : decode cL_law 397 = .ok (.iadd, 1) := by decide +kernel
theorem dL_law_398 : decode cL_law 398 = .ok (.iaload, 1) := by decide +kernel
theorem dL_law_399 : decode cL_law 399 = .ok (.aload_n 0, 1) := by decide +kernel
theorem dL_law_400 : decode cL_law 400 = .ok (.iload 4, 2) := by decide +kernel
theorem dL_law_402 : decode cL_law 402 = .ok (.iconst 2, 1) := by decide +kernel
theorem dL_law_403 : decode cL_law 403 = .ok (.iadd, 1) := by decide +kernel
theorem dL_law_404 : decode cL_law 404 = .ok (.iaload, 1) := by decide +kernel
theorem dL_law_405 : decode cL_law 405 = .ok (.invokevirtual 80, 3) := by decide +kernel
theorem dL_law_408 : decode cL_law 408 = .ok (.istore 6, 2) := by decide +kernel
theorem dL_law_410 : decode cL_law 410 = .ok (.goto 56, 3) := by decide +kernel
theorem dL_law_413 : decode cL_law 413 = .ok (.aload_n 1, 1) := by decide +kernel
theorem dL_law_414 : decode cL_law 414 = .ok (.aload_n 0, 1) := by decide +kernel
theorem dL_law_415 : decode cL_law 415 = .ok (.iload 4, 2) := by decide +kernel
theorem dL_law_417 : decode cL_law 417 = .ok (.iconst 1, 1) := by decide +kernel
theorem dL_law_418 : decode cL_law 418 = .ok (.iadd, 1) := by decide +kernel
theorem dL_law_419 : decode cL_law 419 = .ok (.iaload, 1) := by decide +kernel
theorem dL_law_420 : decode cL_law 420 = .ok (.aload_n 3, 1) := by decide +kernel
theorem dL_law_421 : decode cL_law 421 = .ok (.invokestatic 81, 3) := by decide +kernel
theorem dL_law_424 : decode cL_law 424 = .ok (.istore 5, 2) := by decide +kernel
theorem dL_law_426 : decode cL_law 426 = .ok (.aload_n 2, 1) := by decide +kernel
theorem dL_law_427 : decode cL_law 427 = .ok (.aload_n 0, 1) := by decide +kernel
theorem dL_law_428 : decode cL_law 428 = .ok (.iload 4, 2) := by decide +kernel
theorem dL_law_430 : decode cL_law 430 = .ok (.iconst 1, 1) := by decide +kernel
theorem dL_law_431 : decode cL_law 431 = .ok (.iadd, 1) := by decide +kernel
theorem dL_law_432 : decode cL_law 432 = .ok (.iaload, 1) := by decide +kernel
theorem dL_law_433 : decode cL_law 433 = .ok (.invokevirtual 84, 3) := by decide +kernel
theorem dL_law_436 : decode cL_law 436 = .ok (.istore 6, 2) := by decide +kernel
theorem dL_law_438 : decode cL_law 438 = .ok (.goto 28, 3) := by decide +kernel
theorem dL_law_441 : decode cL_law 441 = .ok (.aload_n 1, 1) := by decide +kernel
theorem dL_law_442 : decode cL_law 442 = .ok (.aload_n 0, 1) := by decide +kernel
theorem dL_law_443 : decode cL_law 443 = .ok (.iload 4, 2) := by decide +kernel
theorem dL_law_445 : decode cL_law 445 = .ok (.iconst 1, 1) := by decide +kernel
theorem dL_law_446 : decode cL_law 446 = .ok (.iadd, 1) := by decide +kernel
theorem dL_law_447 : decode cL_law 447 = .ok (.iaload, 1) := by decide +kernel
theorem dL_law_448 : decode cL_law 448 = .ok (.invokevirtual 85, 3) := by decide +kernel
theorem dL_law_451 : decode cL_law 451 = .ok (.aload_n 2, 1) := by decide +kernel
theorem dL_law_452 : decode cL_law 452 = .ok (.aload_n 0, 1) := by decide +kernel
theorem dL_law_453 : decode cL_law 453 = .ok (.iload 4, 2) := by decide +kernel
theorem dL_law_455 : decode cL_law 455 = .ok (.iconst 1, 1) := by decide +kernel
theorem dL_law_456 : decode cL_law 456 = .ok (.iadd, 1) := by decide +kernel
theorem dL_law_457 : decode cL_law 457 = .ok (.iaload, 1) := by decide +kernel
theorem dL_law_458 : decode cL_law 458 = .ok (.invokevirtual 88, 3) := by decide +kernel
theorem dL_law_461 : decode cL_law 461 = .ok (.if_icmp .eq 5, 3) := by decide +kernel
theorem dL_law_464 : decode cL_law 464 = .ok (.iconst 0, 1) := by decide +kernel
theorem dL_law_465 : decode cL_law 465 = .ok (.ireturn, 1) := by decide +kernel
theorem dL_law_466 : decode cL_law 466 = .ok (.iinc 4 6, 3) := by decide +kernel
theorem dL_law_469 : decode cL_law 469 = .ok (.goto (-446), 3) := by decide +kernel
theorem dL_law_472 : decode cL_law 472 = .ok (.iconst 1, 1) := by decide +kernel
theorem dL_law_473 : decode cL_law 473 = .ok (.ireturn, 1) := by decide +kernel
end
section
/-! intervals of ints: kB x a b, a ≤ x ≤ b -/
abbrev kB (x : Int32) (a b : Int) : Prop := a ≤ x.toInt ∧ x.toInt ≤ b
theorem kB_w {x : Int32} {a b : Int} (h : kB x a b) {lo hi : Int} (h1 : lo ≤ a) (h2 : b ≤ hi) : kB x lo hi := ⟨Int.le_trans h1 h.1, Int.le_trans h.2 h2⟩
theorem kB_all (x : Int32) : kB x (-2147483648) 2147483647 := ⟨by have := x.le_toInt; omega, by have := x.toInt_lt; omega⟩
theorem kB_eq {x y : Int32} {a b : Int} (e : x = y) (h : kB y a b) : kB x a b := e ▸ h
theorem kI_add {x y : Int32} (h1 : -2147483648 ≤ x.toInt + y.toInt) (h2 : x.toInt + y.toInt ≤ 2147483647) : (x + y).toInt = x.toInt + y.toInt := by
  rw [Int32.toInt_add]; exact Int.bmod_eq_of_le (by omega) (by omega)
theorem kI_sub {x y : Int32} (h1 : -2147483648 ≤ x.toInt - y.toInt) (h2 : x.toInt - y.toInt ≤ 2147483647) : (x - y).toInt = x.toInt - y.toInt := by
  rw [Int32.toInt_sub]; exact Int.bmod_eq_of_le (by omega) (by omega)
theorem kI_mul {x y : Int32} (h1 : -2147483648 ≤ x.toInt * y.toInt) (h2 : x.toInt * y.toInt ≤ 2147483647) : (x * y).toInt = x.toInt * y.toInt := by
  rw [Int32.toInt_mul]; exact Int.bmod_eq_of_le (by omega) (by omega)
theorem kI_neg {x : Int32} (h1 : -2147483647 ≤ x.toInt) : (-x).toInt = -x.toInt := by
  have := x.toInt_lt
  rw [Int32.toInt_neg]; exact Int.bmod_eq_of_le (by omega) (by omega)
theorem kB_add {x y : Int32} {a b c d lo hi : Int} (h : kB x a b) (k : kB y c d) (hc : lo ≤ a + c ∧ b + d ≤ hi ∧ -2147483648 ≤ a + c ∧ b + d ≤ 2147483647) : kB (x + y) lo hi := by
  obtain ⟨h1, h2⟩ := h; obtain ⟨k1, k2⟩ := k; obtain ⟨c1, c2, c3, c4⟩ := hc
  have e := kI_add (x := x) (y := y) (by omega) (by omega)
  exact ⟨by omega, by omega⟩
theorem kB_sub {x y : Int32} {a b c d lo hi : Int} (h : kB x a b) (k : kB y c d) (hc : lo ≤ a - d ∧ b - c ≤ hi ∧ -2147483648 ≤ a - d ∧ b - c ≤ 2147483647) : kB (x - y) lo hi := by
  obtain ⟨h1, h2⟩ := h; obtain ⟨k1, k2⟩ := k; obtain ⟨c1, c2, c3, c4⟩ := hc
  have e := kI_sub (x := x) (y := y) (by omega) (by omega)
  exact ⟨by omega, by omega⟩
theorem kB_neg {x : Int32} {a b lo hi : Int} (h : kB x a b) (hc : lo ≤ -b ∧ -a ≤ hi ∧ -2147483647 ≤ a) : kB (-x) lo hi := by
  obtain ⟨h1, h2⟩ := h; obtain ⟨c1, c2, c3⟩ := hc
  have e := kI_neg (x := x) (by omega)
  exact ⟨by omega, by omega⟩
/-- both factors at least 0 -/
theorem kB_mul {x y : Int32} {a b c d lo hi : Int} (h : kB x a b) (k : kB y c d) (hc : 0 ≤ a ∧ 0 ≤ c ∧ lo ≤ a * c ∧ b * d ≤ hi ∧ b * d ≤ 2147483647) : kB (x * y) lo hi := by
  obtain ⟨h1, h2⟩ := h; obtain ⟨k1, k2⟩ := k; obtain ⟨c1, c2, c3, c4, c5⟩ := hc
  have m1 : a * c ≤ x.toInt * y.toInt := Int.mul_le_mul h1 k1 c2 (by omega)
  have m2 : x.toInt * y.toInt ≤ b * d := Int.mul_le_mul h2 k2 (by omega) (by omega)
  have m0 : 0 ≤ x.toInt * y.toInt := Int.mul_nonneg (by omega) (by omega)
  have e := kI_mul (x := x) (y := y) (by omega) (by omega)
  exact ⟨by omega, by omega⟩
/-- a factor that is a number n > 0 -/
theorem kB_mulc {x y : Int32} {a b lo hi n : Int} (h : kB x a b) (k : kB y n n) (hc : 0 < n ∧ lo ≤ a * n ∧ b * n ≤ hi ∧ -2147483648 ≤ a * n ∧ b * n ≤ 2147483647) : kB (x * y) lo hi := by
  obtain ⟨h1, h2⟩ := h; obtain ⟨k1, k2⟩ := k; obtain ⟨c0, c1, c2, c3, c4⟩ := hc
  have ey : y.toInt = n := by omega
  have m1 : a * n ≤ x.toInt * n := Int.mul_le_mul_of_nonneg_right h1 (by omega)
  have m2 : x.toInt * n ≤ b * n := Int.mul_le_mul_of_nonneg_right h2 (by omega)
  have e := kI_mul (x := x) (y := y) (by rw [ey]; omega) (by rw [ey]; omega)
  rw [ey] at e
  exact ⟨by omega, by omega⟩
theorem kB_cmul {x y : Int32} {a b lo hi n : Int} (k : kB y n n) (h : kB x a b) (hc : 0 < n ∧ lo ≤ a * n ∧ b * n ≤ hi ∧ -2147483648 ≤ a * n ∧ b * n ≤ 2147483647) : kB (y * x) lo hi := by
  rw [Int32.mul_comm]; exact kB_mulc h k hc
/-- divided by a number n > 0, what is at least 0 -/
theorem kB_div {x y : Int32} {a b lo hi n : Int} (h : kB x a b) (k : kB y n n) (hc : 0 ≤ a ∧ 0 < n ∧ lo ≤ a / n ∧ b / n ≤ hi) : kB (x / y) lo hi := by
  obtain ⟨h1, h2⟩ := h; obtain ⟨k1, k2⟩ := k; obtain ⟨c0, c1, c2, c3⟩ := hc
  have ey : y.toInt = n := by omega
  have e : (x / y).toInt = x.toInt / n := by rw [lg_idiv_nonneg (by omega) (by omega), ey]
  have m1 : a / n ≤ x.toInt / n := Int.ediv_le_ediv c1 h1
  have m2 : x.toInt / n ≤ b / n := Int.ediv_le_ediv c1 h2
  exact ⟨by omega, by omega⟩
/-- the rest by 1 .. d, of what is at least 0 -/
theorem kB_rem {x y : Int32} {a b c d hi : Int} (h : kB x a b) (k : kB y c d) (hc : 0 ≤ a ∧ 0 < c ∧ d - 1 ≤ hi) : kB (x - x / y * y) 0 hi := by
  obtain ⟨h1, h2⟩ := h; obtain ⟨k1, k2⟩ := k; obtain ⟨c0, c1, c2⟩ := hc
  have e : (x - x / y * y).toInt = x.toInt.tmod y.toInt := rem_toInt x y
  have e2 : x.toInt.tmod y.toInt = x.toInt % y.toInt := Int.tmod_eq_emod_of_nonneg (by omega)
  have m1 : 0 ≤ x.toInt % y.toInt := Int.emod_nonneg _ (by omega)
  have m2 : x.toInt % y.toInt < y.toInt := Int.emod_lt_of_pos _ (by omega)
  exact ⟨by omega, by omega⟩
/-- a mask of k bits -/
theorem kB_and {x m : Int32} (k : Nat) (hm : m.toBitVec.toNat = 2 ^ k - 1) (hk : k ≤ 30) : kB (x &&& m) 0 (2 ^ k - 1) := by
  have h := vp_in_iff.mp (pk_andIn x k hm hk)
  have e : ((2 ^ k : Nat) : Int) = 2 ^ k := by simp
  exact ⟨h.1, by omega⟩
theorem kB_shr {x s : Int32} {a b lo hi : Int} (k : Nat) (hs : (s.toBitVec.smod 32).toNat = k) (h : kB x a b) (hc : lo ≤ a / 2 ^ k ∧ b / 2 ^ k ≤ hi) : kB (x >>> s) lo hi := by
  obtain ⟨h1, h2⟩ := h
  have e : (x >>> s).toInt = x.toInt / 2 ^ k := by rw [pk_shr x s k hs, Int.shiftRight_eq_div_pow]; simp
  have p2 : (0 : Int) < 2 ^ k := by exact_mod_cast Nat.two_pow_pos k
  have m1 : a / 2 ^ k ≤ x.toInt / 2 ^ k := Int.ediv_le_ediv p2 h1
  have m2 : x.toInt / 2 ^ k ≤ b / 2 ^ k := Int.ediv_le_ediv p2 h2
  exact ⟨by omega, by omega⟩
theorem kB_in {x : Int32} {a b : Int} {n : Nat} (h : kB x a b) (hc : 0 ≤ a ∧ b < n) : vp_in x n := vp_in_iff.mpr ⟨Int.le_trans hc.1 h.1, Int.lt_of_le_of_lt h.2 hc.2⟩
theorem kB_ne0 {x : Int32} {a b : Int} (h : kB x a b) (hc : 0 < a ∨ b < 0) : ¬ x = 0 := fun e => by
  obtain ⟨h1, h2⟩ := h
  rw [e, show (0 : Int32).toInt = 0 from by decide] at h1 h2
  omega
/-! what a branch tells -/
theorem kB_lt_l {x y : Int32} {a b c d hi : Int} (h : kB x a b) (k : kB y c d) (q : x < y) (hc : d - 1 ≤ hi) : kB x a hi := ⟨h.1, by have := Int32.lt_iff_toInt_lt.mp q; have := k.2; omega⟩
theorem kB_lt_r {x y : Int32} {a b c d lo : Int} (h : kB x a b) (k : kB y c d) (q : x < y) (hc : lo ≤ a + 1) : kB y lo d := ⟨by have := Int32.lt_iff_toInt_lt.mp q; have := h.1; omega, k.2⟩
theorem kB_le_l {x y : Int32} {a b c d hi : Int} (h : kB x a b) (k : kB y c d) (q : x ≤ y) (hc : d ≤ hi) : kB x a hi := ⟨h.1, by have := Int32.le_iff_toInt_le.mp q; have := k.2; omega⟩
theorem kB_le_r {x y : Int32} {a b c d lo : Int} (h : kB x a b) (k : kB y c d) (q : x ≤ y) (hc : lo ≤ a) : kB y lo d := ⟨by have := Int32.le_iff_toInt_le.mp q; have := h.1; omega, k.2⟩
theorem kN_lt {x y : Int32} (q : ¬ x < y) : y ≤ x := Int32.not_lt.mp q
theorem kN_le {x y : Int32} (q : ¬ x ≤ y) : y < x := Int32.not_le.mp q
theorem kB_eq_l {x y : Int32} {a b c d : Int} (k : kB y c d) (q : x = y) : kB x c d := q ▸ k
/-- a number that is one of 0 .. b and isn't 0 -/
theorem kB_n0 {x : Int32} {a b : Int} (h : kB x a b) (q : ¬ x = 0) (hc : 0 ≤ a) : kB x 1 b := ⟨by
  rcases Int.lt_or_le 0 x.toInt with q2 | q2
  · omega
  · exact absurd (Int32.toInt_inj.mp (show x.toInt = (0 : Int32).toInt by rw [show (0 : Int32).toInt = 0 from by decide]; have := h.1; omega)) q, h.2⟩
def kA (f : Nat → Int32) (a b : Int) : Prop := ∀ j : Nat, kB (f j) a b
theorem kA_up {f : Nat → Int32} {a b : Int} {x : Int32} {k : Nat} (h : kA f a b) (hx : kB x a b) : kA (upd f k x) a b := fun j => by
  rcases Nat.decEq j k with q | q
  · rw [pk_un q]; exact h j
  · rw [q, pk_us]; exact hx
theorem kA_w {f : Nat → Int32} {a b : Int} (h : kA f a b) {lo hi : Int} (h1 : lo ≤ a) (h2 : b ≤ hi) : kA f lo hi := fun j => kB_w (h j) h1 h2
/-- less by what is no more -/
theorem kB_sub0 {x y : Int32} {a b c d hi : Int} (h : kB x a b) (k : kB y c d) (q : y ≤ x) (hc : b - c ≤ hi ∧ b - c ≤ 2147483647) : kB (x - y) 0 hi := by
  obtain ⟨h1, h2⟩ := h; obtain ⟨k1, k2⟩ := k; obtain ⟨c1, c2⟩ := hc
  have q := Int32.le_iff_toInt_le.mp q
  have e := kI_sub (x := x) (y := y) (by omega) (by omega)
  exact ⟨by omega, by omega⟩
/-- divided by what is at least 1 -/
theorem kB_divv {x y : Int32} {a b c d hi : Int} (h : kB x a b) (k : kB y c d) (hc : 0 ≤ a ∧ 0 < c ∧ b ≤ hi) : kB (x / y) 0 hi := by
  obtain ⟨h1, h2⟩ := h; obtain ⟨k1, k2⟩ := k; obtain ⟨c0, c1, c2⟩ := hc
  have e : (x / y).toInt = x.toInt / y.toInt := lg_idiv_nonneg (by omega) (by omega)
  have m1 : 0 ≤ x.toInt / y.toInt := Int.ediv_nonneg (by omega) (by omega)
  have m2 : x.toInt / y.toInt ≤ x.toInt := Int.ediv_le_self _ (by omega)
  exact ⟨by omega, by omega⟩
theorem kB_shl {x s : Int32} {a b lo hi : Int} (k : Nat) (hs : (s.toBitVec.smod 32).toNat = k) (h : kB x a b) (hc : 0 ≤ a ∧ lo ≤ a * 2 ^ k ∧ b * 2 ^ k ≤ hi ∧ b * 2 ^ k ≤ 2147483647) : kB (x <<< s) lo hi := by
  obtain ⟨h1, h2⟩ := h; obtain ⟨c0, c1, c2, c3⟩ := hc
  obtain ⟨j, hj, rfl⟩ := nI_of (x := x) (by rw [Int32.lt_iff_toInt_lt, show (0 : Int32).toInt = 0 from by decide]; omega)
  rw [nI_toInt hj] at h1 h2
  have p2 : (0 : Int) ≤ 2 ^ k := by exact_mod_cast Nat.le_of_lt (Nat.two_pow_pos k)
  have m1 : a * 2 ^ k ≤ (j : Int) * 2 ^ k := Int.mul_le_mul_of_nonneg_right h1 p2
  have m2 : (j : Int) * 2 ^ k ≤ b * 2 ^ k := Int.mul_le_mul_of_nonneg_right h2 p2
  have e1 : ((j * 2 ^ k : Nat) : Int) = (j : Int) * 2 ^ k := by simp
  have hlt : j * 2 ^ k < 2 ^ 31 := by omega
  rw [pk_shlN s k hs (by omega)]
  refine ⟨?_, ?_⟩ <;> rw [nI_toInt hlt] <;> omega
theorem kB_min {x y : Int32} {a b c d lo hi : Int} (h : kB x a b) (k : kB y c d) (hc : lo ≤ a ∧ lo ≤ c ∧ (b ≤ hi ∨ d ≤ hi)) : kB (if y < x then y else x) lo hi := by
  obtain ⟨h1, h2⟩ := h; obtain ⟨k1, k2⟩ := k; obtain ⟨c0, c1, c2⟩ := hc
  by_cases q : y < x
  · rw [if_pos q]; have q := Int32.lt_iff_toInt_lt.mp q; exact ⟨by omega, by omega⟩
  · rw [if_neg q]; have q := Int32.le_iff_toInt_le.mp (kN_lt q); exact ⟨by omega, by omega⟩
theorem kB_max {x y : Int32} {a b c d lo hi : Int} (h : kB x a b) (k : kB y c d) (hc : b ≤ hi ∧ d ≤ hi ∧ (lo ≤ a ∨ lo ≤ c)) : kB (if x < y then y else x) lo hi := by
  obtain ⟨h1, h2⟩ := h; obtain ⟨k1, k2⟩ := k; obtain ⟨c0, c1, c2⟩ := hc
  by_cases q : x < y
  · rw [if_pos q]; have q := Int32.lt_iff_toInt_lt.mp q; exact ⟨by omega, by omega⟩
  · rw [if_neg q]; have q := Int32.le_iff_toInt_le.mp (kN_lt q); exact ⟨by omega, by omega⟩
theorem kB_01 {x : Int32} (h : kB x 0 1) : x = 0 ∨ x = 1 := by
  obtain ⟨h1, h2⟩ := h
  rcases (show x.toInt = 0 ∨ x.toInt = 1 by omega) with q | q
  · exact Or.inl (Int32.toInt_inj.mp (by rw [q]; decide))
  · exact Or.inr (Int32.toInt_inj.mp (by rw [q]; decide))
theorem kB_nz {x : Int32} (h : kB x 0 1) : narrow .boolean (.int x) = .int x := by
  rcases kB_01 h with q | q <;> rw [q] <;> rfl
/-- not the greatest, not the least -/
theorem kB_nhi {x y : Int32} {a b hi : Int} (h : kB x a b) (q : ¬ x = y) (k : kB y b b) (hc : b - 1 ≤ hi) : kB x a hi := ⟨h.1, by
  have h2 := h.2; have k1 := k.1; have k2 := k.2
  rcases Int.lt_or_le x.toInt b with q2 | q2
  · omega
  · exact absurd (Int32.toInt_inj.mp (show x.toInt = y.toInt by omega)) q⟩
theorem kB_nlo {x y : Int32} {a b lo : Int} (h : kB x a b) (q : ¬ x = y) (k : kB y a a) (hc : lo ≤ a + 1) : kB x lo b := ⟨by
  have h2 := h.1; have k1 := k.1; have k2 := k.2
  rcases Int.lt_or_le a x.toInt with q2 | q2
  · omega
  · exact absurd (Int32.toInt_inj.mp (show x.toInt = y.toInt by omega)) q, h.2⟩
end
section
/-! the words of the tables that every method of ours goes by -/
def kW : List Cond := lw_tbl.filter goodWord
theorem kW_good : ∀ w ∈ kW, (w.onTables && w.keeps) = true ∨ ∃ ty, w = .arrayClass ty := fun w h => good_of_word (List.mem_filter.mp h).2
theorem kW_mem {w : Cond} (h : w ∈ lw_tbl) (g : goodWord w = true) : w ∈ kW := List.mem_filter.mpr ⟨h, g⟩
theorem kg_N {w : Cond} (h : w ∈ kW) : GoodIn kW (w :: kW) := fun x hx => (List.mem_cons.mp hx).elim (fun e => e ▸ ⟨h, kW_good _ h⟩) (fun hx => ⟨hx, kW_good _ hx⟩)
theorem kg_V {own C : String} {idx : Nat} {y : MethodName} {w : Cond} (h1 : Cond.methodLink own idx y ∈ kW) (h2 : Cond.instanceMethod y ∈ kW) (h3 : Cond.selects C y y ∈ kW) (h4 : Cond.initialized C ∈ kW) (h5 : w ∈ kW) : GoodIn kW (wsV own idx C y (w :: kW)) := by
  have key : ∀ x ∈ wsV own idx C y (w :: kW), x ∈ kW := by
    intro x hx
    simp only [wsV, List.mem_append, List.mem_cons, List.not_mem_nil, or_false] at hx
    rcases hx with (h | h | h | h) | h | h
    all_goals first | exact h | (subst h; assumption)
  exact fun x hx => ⟨key x hx, kW_good _ (key x hx)⟩
theorem kg_S {own : String} {idx : Nat} {y : MethodName} {w : Cond} (h1 : Cond.methodLink own idx y ∈ kW) (h2 : Cond.static y ∈ kW) (h4 : Cond.initialized own ∈ kW) (h5 : w ∈ kW) : GoodIn kW (wsS own idx y (w :: kW)) := by
  have key : ∀ x ∈ wsS own idx y (w :: kW), x ∈ kW := by
    intro x hx
    simp only [wsS, List.mem_append, List.mem_cons, List.not_mem_nil, or_false] at hx
    rcases hx with (h | h | h) | h | h
    all_goals first | exact h | (subst h; assumption)
  exact fun x hx => ⟨key x hx, kW_good _ (key x hx)⟩
/-! what stays the same through every method: the classes, the arrays' classes, the links between nest mates -/
def kNs : List Cond := [.methodLinkNest RX7 9 yX3_init "KeyFrames", .methodLinkNest RX7 34 yX4_init "KeyFrames", .methodLinkNest RX4 11 yX2_init "KeyFrames", .methodLinkNest RX4 20 yX6_init "KeyFrames", .methodLinkNest RX4 27 yX5_init "KeyFrames", .methodLinkNest RX0 32 yX7_splitOf "KeyFrames", .methodLinkNest RX1 23 yX7_splitOf "KeyFrames", .methodLinkNest RX5 31 yX7_within "KeyFrames"]
def kNf : List Cond := [.fieldLinkNest RX4 114 "KeyFrames$Transform" "grid" "[J" "KeyFrames", .fieldLinkNest RX7 112 "KeyFrames$Picture" "columns" "I" "KeyFrames", .fieldLinkNest RX7 115 "KeyFrames$Picture" "rows" "I" "KeyFrames", .fieldLinkNest RX7 118 "KeyFrames$Picture" "q" "I" "KeyFrames", .fieldLinkNest RX7 121 "KeyFrames$Picture" "level" "I" "KeyFrames", .fieldLinkNest RX7 124 "KeyFrames$Picture" "toldAnew" "I" "KeyFrames", .fieldLinkNest RX7 127 "KeyFrames$Picture" "octetsBeyond" "I" "KeyFrames", .fieldLinkNest RX7 130 "KeyFrames$Picture" "foursChanged" "I" "KeyFrames"]
def kN (U : State) : Prop := ∀ w ∈ kNs ++ kNf, va_Nw w U
def kK (D : va_G) (cI cJ cZ : ClassId) (U : State) : Prop := va_K D vwCl [(cI, .int), (cJ, .long), (cZ, .boolean)] U ∧ kN U
theorem kN_tab : ∀ w ∈ kNs ++ kNf, w.onTables = true := by
  intro w hw
  simp only [kNs, kNf, List.cons_append, List.nil_append, List.mem_cons, List.not_mem_nil, or_false] at hw
  rcases hw with h | h | h | h | h | h | h | h | h | h | h | h | h | h | h | h <;> (subst h; rfl)
theorem kN_kind : ∀ w ∈ kNs ++ kNf, (∃ a i x h, w = .methodLinkNest a i x h) ∨ (∃ a i b n d h, w = .fieldLinkNest a i b n d h) := by
  intro w hw
  simp only [kNs, kNf, List.cons_append, List.nil_append, List.mem_cons, List.not_mem_nil, or_false] at hw
  rcases hw with h | h | h | h | h | h | h | h | h | h | h | h | h | h | h | h
  all_goals first | exact Or.inl ⟨_, _, _, _, h⟩ | exact Or.inr ⟨_, _, _, _, _, _, h⟩
theorem kN_warm {s U : State} (hW : s.WarmedH U.vm) (h : kN s) : kN U := by
  intro w hw
  rcases kN_kind w hw with ⟨a, i, x, hh, e⟩ | ⟨a, i, b, n, d, hh, e⟩
  · have := h w hw
    rw [e] at this ⊢
    exact va_Nw.warmM hW this
  · have := h w hw
    rw [e] at this ⊢
    exact va_Nw.warmF hW this
theorem kK.call {D : va_G} {cI cJ cZ : ClassId} {U : State} {g : JFrame} {mk : MethodId} {a : Array Value} (h : kK D cI cJ cZ U) : kK D cI cJ cZ (U.calling g mk a) :=
  ⟨va_K.moved (u := U) (U := U.calling g mk a) (Vm.Alike.refl U.vm) h.1, fun w hw => va_Nw.same (u := U) (U := U.calling g mk a) (kN_tab w hw) rfl (h.2 w hw)⟩
theorem kK.warm {D : va_G} {cI cJ cZ : ClassId} {s U : State} (hW : s.WarmedH U.vm) (h : kK D cI cJ cZ s) : kK D cI cJ cZ U := ⟨va_K.moved hW.alike h.1, kN_warm hW h.2⟩
/-! numbers of the coder -/
def pw2 (n : Int) : Int := 2 ^ n.toNat
theorem pw2_0 : pw2 0 = 1 := by decide
theorem pw2_s {i : Int} (h : 0 ≤ i) : pw2 (i + 1) = 2 * pw2 i := by
  unfold pw2
  rw [show (i + 1).toNat = i.toNat + 1 by omega, Int.pow_succ, Int.mul_comm]
theorem pw2_pos (i : Int) : 0 < pw2 i := Int.pow_pos (by decide)
theorem pw2_mono {i j : Int} (h : i ≤ j) : pw2 i ≤ pw2 j := by
  unfold pw2
  have h2 : i.toNat ≤ j.toNat := by omega
  have := Nat.pow_le_pow_right (n := 2) (by decide) h2
  exact_mod_cast this
theorem ksp_toInt {rg p : Int32} (h : kB rg 128 255) (hp : kB p 0 255) : (1 + (((rg - 1) * p) >>> ((8 : Int32) &&& 31))).toInt = 1 + (rg.toInt - 1) * p.toInt / 256 := by
  obtain ⟨h1, h2⟩ := h; obtain ⟨p1, p2⟩ := hp
  have c1 : (1 : Int32).toInt = 1 := by decide
  have e1 : (rg - 1).toInt = rg.toInt - 1 := by rw [kI_sub (by rw [c1]; omega) (by rw [c1]; omega), c1]
  have m1 : 0 ≤ (rg.toInt - 1) * p.toInt := Int.mul_nonneg (by omega) p1
  have m2 : (rg.toInt - 1) * p.toInt ≤ 254 * 255 := Int.mul_le_mul (by omega) p2 p1 (by omega)
  have e2 : ((rg - 1) * p).toInt = (rg.toInt - 1) * p.toInt := by rw [kI_mul (by rw [e1]; omega) (by rw [e1]; omega), e1]
  have e3 : (((rg - 1) * p) >>> ((8 : Int32) &&& 31)).toInt = (rg.toInt - 1) * p.toInt / 256 := by
    rw [pk_shr _ _ 8 (by decide), e2, Int.shiftRight_eq_div_pow]; rfl
  rw [kI_add (by rw [c1, e3]; omega) (by rw [c1, e3]; omega), c1, e3]
theorem ksp_lt {a p : Int} (h1 : 128 ≤ a) (h2 : a ≤ 255) (p1 : 0 ≤ p) (p2 : p ≤ 255) : 1 ≤ 1 + (a - 1) * p / 256 ∧ 1 + (a - 1) * p / 256 < a := by
  have m1 : 0 ≤ (a - 1) * p := Int.mul_nonneg (by omega) p1
  have m2 : (a - 1) * p ≤ (a - 1) * 255 := Int.mul_le_mul_of_nonneg_left p2 (by omega)
  omega
theorem kor1 {n b : Int32} (hn : kB n 0 1073741823) (hb : kB b 0 1) : ((n <<< ((1 : Int32) &&& 31)) ||| b).toInt = 2 * n.toInt + b.toInt := by
  obtain ⟨h1, h2⟩ := hn
  obtain ⟨j, hj, rfl⟩ := nI_of (x := n) (by rw [Int32.lt_iff_toInt_lt, show (0 : Int32).toInt = 0 from by decide]; omega)
  rw [nI_toInt hj] at h1 h2 ⊢
  rw [pk_shlN _ 1 (by decide) (by omega)]
  rcases kB_01 hb with q | q
  · rw [q, show (0 : Int32).toInt = 0 from by decide]
    have : nI (j * 2 ^ 1) ||| 0 = nI (j * 2 ^ 1) := by
      apply Int32.toBitVec_inj.mp
      rw [Int32.toBitVec_or]
      simp
    rw [this, nI_toInt (by omega)]; omega
  · rw [q, show (1 : Int32).toInt = 1 from by decide]
    have : nI (j * 2 ^ 1) ||| 1 = nI (j * 2 + 1) := by
      apply Int32.toBitVec_inj.mp
      apply BitVec.eq_of_toNat_eq
      rw [Int32.toBitVec_or, BitVec.toNat_or, pk_tn (by omega), pk_tn (by omega)]
      have := Nat.two_pow_add_eq_or_of_lt (b := 1) (i := 1) (by decide) j
      rw [Nat.mul_comm j (2 ^ 1), show ((1 : Int32).toBitVec).toNat = 1 from by decide, ← this]
    rw [this, nI_toInt (by omega)]; omega
theorem kinc {x : Int32} (h : kB x (-2147483648) 2147483646) : (x + 1).toInt = x.toInt + 1 := by
  have c1 : (1 : Int32).toInt = 1 := by decide
  rw [kI_add (by rw [c1]; have := h.1; omega) (by rw [c1]; have := h.2; omega), c1]
theorem kdbl {x : Int32} (h : kB x 0 1000000000) : (x <<< ((1 : Int32) &&& 31)).toInt = 2 * x.toInt := by
  obtain ⟨h1, h2⟩ := h
  obtain ⟨j, hj, rfl⟩ := nI_of (x := x) (by rw [Int32.lt_iff_toInt_lt, show (0 : Int32).toInt = 0 from by decide]; omega)
  rw [nI_toInt hj] at h1 h2 ⊢
  rw [pk_shlN _ 1 (by decide) (by omega), nI_toInt (by omega)]; omega
theorem kdec {x : Int32} (h : kB x (-2147483647) 2147483647) : (x + (-1)).toInt = x.toInt + (-1) := by
  have c1 : (-1 : Int32).toInt = -1 := by decide
  rw [kI_add (by rw [c1]; have := h.1; omega) (by rw [c1]; have := h.2; omega), c1]
theorem kinc6 {x : Int32} (h : kB x (-2147483648) 2147483641) : (x + 6).toInt = x.toInt + 6 := by
  have c1 : (6 : Int32).toInt = 6 := by decide
  rw [kI_add (by rw [c1]; have := h.1; omega) (by rw [c1]; have := h.2; omega), c1]
/-! the static tables -/
abbrev tl_BANDS : List Int32 := [0, 1, 2, 3, 6, 4, 5, 6, 6, 6, 6, 6, 6, 6, 6, 7]
abbrev tl_LEAST : List Int32 := [5, 7, 11, 19, 35, 67]
abbrev tl_EXTRA_FROM : List Int32 := [0, 1, 3, 6, 10, 15, 26]
abbrev tl_EXTRA : List Int32 := [159, 165, 145, 173, 148, 140, 176, 155, 140, 135, 180, 157, 141, 134, 130, 254, 254, 243, 230, 196, 177, 153, 140, 133, 130, 129]
abbrev tl_PLACES : List Int32 := [0, 1, 4, 8, 5, 2, 3, 6, 9, 12, 13, 10, 7, 11, 14, 15]
theorem kt_of {L : List Int32} {lo hi : Int} (h0 : lo ≤ 0 ∧ 0 ≤ hi) (h : (L.all (fun x => decide (lo ≤ x.toInt) && decide (x.toInt ≤ hi))) = true) (j : Nat) : kB (L.getD j 0) lo hi := by
  rcases Nat.lt_or_ge j L.length with q | q
  · have h1 := List.all_eq_true.mp h (L[j]) (List.getElem_mem q)
    simp only [Bool.and_eq_true, decide_eq_true_eq] at h1
    rw [List.getD_eq_getElem?_getD, List.getElem?_eq_getElem q]
    exact h1
  · rw [List.getD_eq_getElem?_getD, List.getElem?_eq_none q]
    exact ⟨by show lo ≤ (0 : Int32).toInt; rw [show (0 : Int32).toInt = 0 from by decide]; exact h0.1, by show (0 : Int32).toInt ≤ hi; rw [show (0 : Int32).toInt = 0 from by decide]; exact h0.2⟩
theorem kt_BANDS (j : Nat) : kB (tl_BANDS.getD j 0) 0 7 := kt_of (by decide) (by decide) j
theorem kt_LEAST (j : Nat) : kB (tl_LEAST.getD j 0) 0 67 := kt_of (by decide) (by decide) j
theorem kt_EXTRA_FROM (j : Nat) : kB (tl_EXTRA_FROM.getD j 0) 0 26 := kt_of (by decide) (by decide) j
theorem kt_EXTRA (j : Nat) : kB (tl_EXTRA.getD j 0) 0 254 := kt_of (by decide) (by decide) j
theorem kt_PLACES (j : Nat) : kB (tl_PLACES.getD j 0) 0 15 := kt_of (by decide) (by decide) j
def kT1 (C n : String) (N : Nat) (L : List Int32) (A : Nat → Prop) (U : State) (H : Heap) : Prop := ∃ t : Nat, va_Z C n "[I" (.ref t) A U H ∧ va_T .int t N (fun j => .int (L.getD j 0)) A U H
theorem kT1.at {C n : String} {N : Nat} {L : List Int32} {A B : Nat → Prop} {s U : State} {H : Heap} {locs : List Loc} (h : kT1 C n N L A s s.heap) (hS : va_S A s.heap H locs) (hF : ∀ q, B q → A q) (hW : s.WarmedH U.vm) : kT1 C n N L B U H := by
  obtain ⟨t, h1, h2⟩ := h
  exact ⟨t, ((h1.kept hS.2.1).narrow hF).moved hW.alike, ((h2.kept hS.2.1).narrow hF).moved hW.alike⟩
theorem kT1.call {C n : String} {N : Nat} {L : List Int32} {A : Nat → Prop} {U : State} {g : JFrame} {mk : MethodId} {a : Array Value} (h : kT1 C n N L A U U.heap) : kT1 C n N L A (U.calling g mk a) (U.calling g mk a).heap := by
  obtain ⟨t, h1, h2⟩ := h
  exact ⟨t, va_Z.moved (u := U) (U := U.calling g mk a) (Vm.Alike.refl U.vm) h1, va_T.moved (u := U) (U := U.calling g mk a) (Vm.Alike.refl U.vm) h2⟩
def kT (A : Nat → Prop) (U : State) (H : Heap) : Prop := kT1 RX2 "BANDS" 16 tl_BANDS A U H ∧ kT1 RX2 "LEAST" 6 tl_LEAST A U H ∧ kT1 RX2 "EXTRA_FROM" 7 tl_EXTRA_FROM A U H ∧ kT1 RX2 "EXTRA" 26 tl_EXTRA A U H ∧ kT1 RX6 "PLACES" 16 tl_PLACES A U H
theorem kT.at {A B : Nat → Prop} {s U : State} {H : Heap} {locs : List Loc} (h : kT A s s.heap) (hS : va_S A s.heap H locs) (hF : ∀ q, B q → A q) (hW : s.WarmedH U.vm) : kT B U H := ⟨h.1.at hS hF hW, h.2.1.at hS hF hW, h.2.2.1.at hS hF hW, h.2.2.2.1.at hS hF hW, h.2.2.2.2.at hS hF hW⟩
theorem kT.call {A : Nat → Prop} {U : State} {g : JFrame} {mk : MethodId} {a : Array Value} (h : kT A U U.heap) : kT A (U.calling g mk a) (U.calling g mk a).heap := ⟨h.1.call, h.2.1.call, h.2.2.1.call, h.2.2.2.1.call, h.2.2.2.2.call⟩
theorem kT_BANDS {A : Nat → Prop} {U : State} {H : Heap} (h : kT A U H) : kT1 RX2 "BANDS" 16 tl_BANDS A U H := h.1
theorem kT_LEAST {A : Nat → Prop} {U : State} {H : Heap} (h : kT A U H) : kT1 RX2 "LEAST" 6 tl_LEAST A U H := h.2.1
theorem kT_EXTRA_FROM {A : Nat → Prop} {U : State} {H : Heap} (h : kT A U H) : kT1 RX2 "EXTRA_FROM" 7 tl_EXTRA_FROM A U H := h.2.2.1
theorem kT_EXTRA {A : Nat → Prop} {U : State} {H : Heap} (h : kT A U H) : kT1 RX2 "EXTRA" 26 tl_EXTRA A U H := h.2.2.2.1
theorem kT_PLACES {A : Nat → Prop} {U : State} {H : Heap} (h : kT A U H) : kT1 RX6 "PLACES" 16 tl_PLACES A U H := h.2.2.2.2
/-- the block above -/
theorem kctx {row cols col v5 v7 v43 : Int32} (hr : kB row 1 3) (hc : kB cols 1 4) (hl : kB col 0 3) (e5 : v5 = row * cols) (e7 : v7 = v5 + col) (e43 : v43 = v7 - cols) : kB v43 0 15 := by
  obtain ⟨r1, r2⟩ := hr; obtain ⟨c1, c2⟩ := hc; obtain ⟨l1, l2⟩ := hl
  have m1 : 1 * cols.toInt ≤ row.toInt * cols.toInt := Int.mul_le_mul_of_nonneg_right r1 (by omega)
  have m2 : row.toInt * cols.toInt ≤ 3 * cols.toInt := Int.mul_le_mul_of_nonneg_right r2 (by omega)
  have t5 : v5.toInt = row.toInt * cols.toInt := by rw [e5, kI_mul (by omega) (by omega)]
  have t7 : v7.toInt = v5.toInt + col.toInt := by rw [e7, kI_add (by omega) (by omega)]
  have t43 : v43.toInt = v7.toInt - cols.toInt := by rw [e43, kI_sub (by omega) (by omega)]
  exact ⟨by omega, by omega⟩
theorem kn_w {r m : Int32} {k hi : Int} (h : 0 ≤ r.toInt ∧ r.toInt < pw2 m.toInt) (e : pw2 m.toInt = k) (hk : k - 1 ≤ hi) : kB r 0 hi := ⟨h.1, by omega⟩
/-! for the reference -/
theorem kspM_toInt {rg p : Int32} (h : kB rg 128 255) (hp : kB p 0 255) : (1 + ((rg - 1) * p) / 256).toInt = 1 + (rg.toInt - 1) * p.toInt / 256 := by
  obtain ⟨h1, h2⟩ := h; obtain ⟨p1, p2⟩ := hp
  have c1 : (1 : Int32).toInt = 1 := by decide
  have c2 : (256 : Int32).toInt = 256 := by decide
  have e1 : (rg - 1).toInt = rg.toInt - 1 := by rw [kI_sub (by rw [c1]; omega) (by rw [c1]; omega), c1]
  have m1 : 0 ≤ (rg.toInt - 1) * p.toInt := Int.mul_nonneg (by omega) p1
  have m2 : (rg.toInt - 1) * p.toInt ≤ 254 * 255 := Int.mul_le_mul (by omega) p2 p1 (by omega)
  have e2 : ((rg - 1) * p).toInt = (rg.toInt - 1) * p.toInt := by rw [kI_mul (by rw [e1]; omega) (by rw [e1]; omega), e1]
  have e3 : (((rg - 1) * p) / 256).toInt = (rg.toInt - 1) * p.toInt / 256 := by rw [lg_idiv_nonneg (by rw [e2]; exact m1) (by rw [c2]; decide), e2, c2]
  rw [kI_add (by rw [c1, e3]; omega) (by rw [c1, e3]; omega), c1, e3]
/-- how many doublings are left -/
def kdl (r : Int) : Int := if 128 ≤ r then 0 else if 64 ≤ r then 1 else if 32 ≤ r then 2 else if 16 ≤ r then 3 else if 8 ≤ r then 4 else if 4 ≤ r then 5 else if 2 ≤ r then 6 else 7
theorem kdl_le (r : Int) : 0 ≤ kdl r ∧ kdl r ≤ 7 := by unfold kdl; repeat' split <;> omega
theorem kdl_0 {r : Int} (h : 128 ≤ r) : kdl r = 0 := by unfold kdl; rw [if_pos h]
theorem kdl_dbl {r : Int} (h1 : 1 ≤ r) (h2 : r < 128) : kdl (2 * r) + 1 = kdl r := by unfold kdl; repeat' split <;> omega
theorem kdbl2 {x : Int32} (h : kB x 0 1000000000) : ((2 : Int32) * x).toInt = 2 * x.toInt := by
  have c1 : (2 : Int32).toInt = 2 := by decide
  rw [kI_mul (by rw [c1]; omega) (by rw [c1]; omega), c1]
theorem kl255 {x : Int64} : kB (x &&& 255).toInt32 0 255 := by
  have h : (x &&& 255).toInt32 = x.toInt32 &&& 255 := by
    apply Int32.toBitVec_inj.mp
    simp [Int64.toBitVec_and, Int32.toBitVec_and]
  rw [h]
  exact kB_and 8 (by decide) (by decide)
theorem kdivc {b c v : Int32} {R : Int} (hb : kB b 0 15) (hc : kB c 1 4) (h : b.toInt < c.toInt * R) (hR : R ≤ 4) (ev : v = b / c) : kB v 0 3 := by
  obtain ⟨b1, b2⟩ := hb; obtain ⟨c1, c2⟩ := hc
  have e : v.toInt = b.toInt / c.toInt := by rw [ev, lg_idiv_nonneg (by omega) (by omega)]
  have m1 : 0 ≤ b.toInt / c.toInt := Int.ediv_nonneg (by omega) (by omega)
  have m2 : b.toInt / c.toInt < R := Int.ediv_lt_of_lt_mul (by omega) (by rw [Int.mul_comm]; exact h)
  exact ⟨by omega, by omega⟩
theorem kremp {b c v : Int32} (hb : kB b 0 15) (hc : kB c 1 4) (ev : v = b - b / c * c) (h : 0 < v) : kB b 1 15 := by
  refine ⟨?_, hb.2⟩
  rcases Int.lt_or_le 0 b.toInt with q | q
  · omega
  · have e0 : b.toInt = 0 := by have := hb.1; omega
    have h2 := Int32.lt_iff_toInt_lt.mp h
    rw [ev, rem_toInt, e0, show (0 : Int32).toInt = 0 from by decide, Int.zero_tmod] at h2
    omega
theorem kmulI {a b : Int32} (ha : kB a 0 4) (hb : kB b 0 4) : (a * b).toInt = a.toInt * b.toInt := by
  have m1 : 0 ≤ a.toInt * b.toInt := Int.mul_nonneg ha.1 hb.1
  have m2 : a.toInt * b.toInt ≤ 4 * 4 := Int.mul_le_mul ha.2 hb.2 hb.1 (by decide)
  exact kI_mul (by omega) (by omega)
/-! writing: the range, how many shifts, how many bytes -/
abbrev kNF (sl sz : Int) : Prop := (sz = 0 ∧ 1 ≤ sl ∧ sl ≤ 24) ∨ (1 ≤ sz ∧ 1 ≤ sl ∧ sl ≤ 8)
def krn (r : Int) : Int := if 128 ≤ r then r else if 64 ≤ r then 2 * r else if 32 ≤ r then 4 * r else if 16 ≤ r then 8 * r else if 8 ≤ r then 16 * r else if 4 ≤ r then 32 * r else if 2 ≤ r then 64 * r else 128 * r
theorem krn_0 {r : Int} (h : 128 ≤ r) : krn r = r := by unfold krn; rw [if_pos h]
theorem krn_dbl {r : Int} (h1 : 1 ≤ r) (h2 : r < 128) : krn (2 * r) = krn r := by unfold krn; repeat' split <;> omega
theorem kdl_z {r : Int} (h : kdl r = 0) : 128 ≤ r := by
  rcases Int.lt_or_le r 128 with q | q
  · exfalso; revert h; unfold kdl; repeat' split <;> omega
  · exact q
def kr1 (p b r : Int) : Int := if b = 0 then 1 + (r - 1) * p / 256 else r - (1 + (r - 1) * p / 256)
theorem kr1_in {p b r : Int} (h1 : 128 ≤ r) (h2 : r ≤ 255) (p1 : 0 ≤ p) (p2 : p ≤ 255) : 1 ≤ kr1 p b r ∧ kr1 p b r ≤ 254 := by
  have := ksp_lt h1 h2 p1 p2
  unfold kr1; split <;> omega
def kput (p : Int) (bt : Nat → Int) : Nat → Int × Int → Int × Int
  | 0, s => s
  | n + 1, s => kput p bt n (krn (kr1 p (bt n) s.1), s.2 + kdl (kr1 p (bt n) s.1))
theorem kdec1 {x : Int32} (h : kB x (-2147483647) 2147483647) : (x - 1).toInt = x.toInt - 1 := by
  have c1 : (1 : Int32).toInt = 1 := by decide
  rw [kI_sub (by rw [c1]; have := h.1; omega) (by rw [c1]; have := h.2; omega), c1]
theorem k0 {x : Int32} (h : x = 0) : x.toInt = 0 := by rw [h]; decide
theorem kn0 {x : Int32} (h : ¬ x = 0) : ¬ x.toInt = 0 := fun q => h (Int32.toInt_inj.mp (by rw [q]; decide))
/-! the bits of a number -/
def kbt (b : Int32) (i : Nat) : Int := b.toInt / 2 ^ i % 2
theorem k31 : ∀ j, j < 32 → (((nI j &&& 31).toBitVec).smod 32).toNat = j := by decide
theorem k31u : ∀ j, j < 32 → (((nI j).toUInt32 &&& Int32.toUInt32 31).toBitVec % 32).toNat = j := by decide
theorem kbt_01 (b : Int32) (i : Nat) : 0 ≤ kbt b i ∧ kbt b i ≤ 1 := by unfold kbt; omega
theorem kbtM {b x : Int32} (hx : kB x 0 31) : ((b >>> (x &&& 31)) &&& 1).toInt = kbt b x.toInt.toNat := by
  obtain ⟨h1, h2⟩ := hx
  obtain ⟨j, hj, rfl⟩ := nI_of (x := x) (by rw [Int32.lt_iff_toInt_lt, show (0 : Int32).toInt = 0 from by decide]; omega)
  rw [nI_toInt hj] at h1 h2 ⊢
  have hj2 : j < 32 := by omega
  rw [pk_and _ 1 (by decide), nI_toInt (by omega)]
  have e := pk_shr b (nI j &&& 31) j (k31 j hj2)
  rw [Int.shiftRight_eq_div_pow] at e
  have e2 : ((b >>> (nI j &&& 31)).toInt) = if 2 * (b >>> (nI j &&& 31)).toBitVec.toNat < 2 ^ 32 then ((b >>> (nI j &&& 31)).toBitVec.toNat : Int) else ((b >>> (nI j &&& 31)).toBitVec.toNat : Int) - (2 ^ 32 : Nat) := BitVec.toInt_eq_toNat_cond _
  unfold kbt
  rw [Int.toNat_natCast, show (b.toInt / 2 ^ j : Int) = (b >>> (nI j &&& 31)).toInt by rw [e]; simp]
  split at e2 <;> omega
theorem kbt_cases {N t : Int} (h : t = N ∨ t = N - 4294967296) (j : Nat) (hj : j < 32) : N / 2 ^ j % 2 = t / 2 ^ j % 2 := by
  rcases h with h | h
  · rw [h]
  · have hc : j = 0 ∨ j = 1 ∨ j = 2 ∨ j = 3 ∨ j = 4 ∨ j = 5 ∨ j = 6 ∨ j = 7 ∨ j = 8 ∨ j = 9 ∨ j = 10 ∨ j = 11 ∨ j = 12 ∨ j = 13 ∨ j = 14 ∨ j = 15 ∨ j = 16 ∨ j = 17 ∨ j = 18 ∨ j = 19 ∨ j = 20 ∨ j = 21 ∨ j = 22 ∨ j = 23 ∨ j = 24 ∨ j = 25 ∨ j = 26 ∨ j = 27 ∨ j = 28 ∨ j = 29 ∨ j = 30 ∨ j = 31 := by omega
    rcases hc with q | q | q | q | q | q | q | q | q | q | q | q | q | q | q | q | q | q | q | q | q | q | q | q | q | q | q | q | q | q | q | q
    all_goals (subst q; rw [h]; omega)
theorem kbtC {b x : Int32} (hx : kB x 0 31) : ((b.toUInt32 >>> (x.toUInt32 &&& Int32.toUInt32 31)).toInt32 &&& 1).toInt = kbt b x.toInt.toNat := by
  obtain ⟨h1, h2⟩ := hx
  obtain ⟨j, hj, rfl⟩ := nI_of (x := x) (by rw [Int32.lt_iff_toInt_lt, show (0 : Int32).toInt = 0 from by decide]; omega)
  rw [nI_toInt hj] at h1 h2 ⊢
  have hj2 : j < 32 := by omega
  rw [pk_and _ 1 (by decide), nI_toInt (by omega), pk_ushr b (nI j) j (k31u j hj2), Int.toNat_natCast]
  have e2 : b.toInt = if 2 * b.toBitVec.toNat < 2 ^ 32 then (b.toBitVec.toNat : Int) else (b.toBitVec.toNat : Int) - (2 ^ 32 : Nat) := BitVec.toInt_eq_toNat_cond _
  have e3 := kbt_cases (N := (b.toBitVec.toNat : Int)) (t := b.toInt) (by split at e2 <;> omega) j hj2
  unfold kbt
  rw [← e3]
  simp
theorem kput_s (p : Int) (bt : Nat → Int) (n : Nat) (s : Int × Int) : kput p bt (n + 1) s = kput p bt n (krn (kr1 p (bt n) s.1), s.2 + kdl (kr1 p (bt n) s.1)) := rfl
/-! writing, to the byte: the bottom as a number B, the bytes as a function -/
theorem pf_lI {a : Nat} (h : a < 2 ^ 63) : (lN a).toInt = (a : Int) := lg_ofNat_toInt h
theorem pf_shr {a d : Nat} {D : Int64} (hD : (D.toBitVec.smod 64).toNat = d) (h : a < 2 ^ 62) : lN a >>> D = lN (a / 2 ^ d) := by
  have hd : a / 2 ^ d ≤ a := Nat.div_le_self _ _
  apply Int64.toInt_inj.mp
  have e : (lN a >>> D).toInt = (lN a).toInt >>> d := by
    rw [← hD]
    exact BitVec.toInt_sshiftRight ..
  rw [e, Int.shiftRight_eq_div_pow, pf_lI (by omega), pf_lI (by omega)]
  rfl
def wCar : Nat → (Nat → Int32) → (Nat → Int32)
  | 0, f => f
  | n + 1, f => if f n = 255 then wCar n (upd f n 0) else upd f n (f n + 1)
def wF (z B : Nat) (f : Nat → Int32) : Nat → Int32 := if 2147483648 ≤ B then wCar z f else f
def wSh (s : Int × Int × Nat × (Nat → Int32)) : Int × Int × Nat × (Nat → Int32) :=
  if s.1 = 1 then (8, s.2.1 + 1, 2 * s.2.2.1 % 4294967296 % 16777216, upd (wF s.2.1.toNat s.2.2.1 s.2.2.2) s.2.1.toNat (nI (2 * s.2.2.1 % 4294967296 / 16777216)))
  else (s.1 - 1, s.2.1, 2 * s.2.2.1 % 4294967296, wF s.2.1.toNat s.2.2.1 s.2.2.2)
def wIt : Nat → Int × Int × Nat × (Nat → Int32) → Int × Int × Nat × (Nat → Int32)
  | 0, s => s
  | n + 1, s => wIt n (wSh s)
def wB1 (p b r : Int) (B : Nat) : Nat := if b = 0 then B else (B + (1 + (r - 1) * p / 256).toNat) % 4294967296
def wPut (p : Int) (bt : Nat → Int) : Nat → Int × Int × Int × Nat × (Nat → Int32) → Int × Int × Int × Nat × (Nat → Int32)
  | 0, s => s
  | n + 1, s => wPut p bt n (krn (kr1 p (bt n) s.1), wIt (kdl (kr1 p (bt n) s.1)).toNat (s.2.1, s.2.2.1, wB1 p (bt n) s.1 s.2.2.2.1, s.2.2.2.2))
theorem wPut_s (p : Int) (bt : Nat → Int) (n : Nat) (s : Int × Int × Int × Nat × (Nat → Int32)) : wPut p bt (n + 1) s = wPut p bt n (krn (kr1 p (bt n) s.1), wIt (kdl (kr1 p (bt n) s.1)).toNat (s.2.1, s.2.2.1, wB1 p (bt n) s.1 s.2.2.2.1, s.2.2.2.2)) := rfl
theorem wSh_lt {s : Int × Int × Nat × (Nat → Int32)} (h : s.2.2.1 < 4294967296) : (wSh s).2.2.1 < 4294967296 := by
  unfold wSh; split
  · show 2 * s.2.2.1 % 4294967296 % 16777216 < 4294967296; omega
  · show 2 * s.2.2.1 % 4294967296 < 4294967296; omega
theorem wIt_lt : ∀ (n : Nat) (s : Int × Int × Nat × (Nat → Int32)), s.2.2.1 < 4294967296 → (wIt n s).2.2.1 < 4294967296
  | 0, _, h => h
  | n + 1, s, h => wIt_lt n (wSh s) (wSh_lt h)
theorem kcl {x : Int32} : x.toNatClampNeg = x.toInt.toNat := rfl
theorem wCar_255 {x : Int32} {f : Nat → Int32} (hx : 0 ≤ x.toInt) (h : f x.toNatClampNeg = 255) : wCar (x.toInt + 1).toNat f = wCar x.toInt.toNat (upd f x.toNatClampNeg 0) := by
  rw [show (x.toInt + 1).toNat = x.toInt.toNat + 1 by omega]
  show (if f x.toInt.toNat = 255 then wCar x.toInt.toNat (upd f x.toInt.toNat 0) else _) = _
  rw [if_pos (by rw [← kcl]; exact h), kcl]
theorem wCar_n {x : Int32} {f : Nat → Int32} (hx : 0 ≤ x.toInt) (h : ¬ f x.toNatClampNeg = 255) : wCar (x.toInt + 1).toNat f = upd f x.toNatClampNeg (f x.toNatClampNeg + 1) := by
  rw [show (x.toInt + 1).toNat = x.toInt.toNat + 1 by omega]
  show (if f x.toInt.toNat = 255 then _ else upd f x.toInt.toNat (f x.toInt.toNat + 1)) = _
  rw [if_neg (by rw [← kcl]; exact h), kcl]
theorem wCar_0 {x : Int} {f : Nat → Int32} (hx : x < 0) : wCar (x + 1).toNat f = f := by
  rw [show (x + 1).toNat = 0 by omega]; rfl
/-! the class: an int is nI B -/
theorem nI_tn {B : Nat} (h : B < 4294967296) : (nI B).toBitVec.toNat = B := pk_tn (by omega)
theorem nI_neg {B : Nat} (h : B < 4294967296) : (nI B).toInt < 0 ↔ 2147483648 ≤ B := by
  have e : (nI B).toInt = if 2 * (nI B).toBitVec.toNat < 2 ^ 32 then ((nI B).toBitVec.toNat : Int) else ((nI B).toBitVec.toNat : Int) - (2 ^ 32 : Nat) := BitVec.toInt_eq_toNat_cond _
  rw [nI_tn h] at e
  split at e <;> omega
theorem nI_mod (n : Nat) : nI n = nI (n % 4294967296) := by
  apply Int32.toBitVec_inj.mp
  apply BitVec.eq_of_toNat_eq
  show n % 2 ^ 32 = n % 4294967296 % 2 ^ 32
  omega
theorem nI_shlm {B k : Nat} (hB : B < 4294967296) {s : Int32} (hs : (s.toBitVec.smod 32).toNat = k) : nI B <<< s = nI (B * 2 ^ k % 4294967296) := by
  apply Int32.toBitVec_inj.mp
  apply BitVec.eq_of_toNat_eq
  rw [pk_shl (nI B) s k hs, nI_tn hB, nI_tn (Nat.mod_lt _ (by decide))]
theorem nI_ush {B k : Nat} (hB : B < 4294967296) {s : Int32} (hs : ((s.toUInt32 &&& Int32.toUInt32 31).toBitVec % 32).toNat = k) : ((nI B).toUInt32 >>> (s.toUInt32 &&& Int32.toUInt32 31)).toInt32 = nI (B / 2 ^ k) := pk_ushrN (by omega) s k hs
theorem nI_msk {B k : Nat} (hB : B < 4294967296) {m : Int32} (hm : m.toBitVec.toNat = 2 ^ k - 1) : nI B &&& m = nI (B % 2 ^ k) := pk_andN (by omega) k hm
theorem nI_of_toInt {x : Int32} (h : 0 ≤ x.toInt) : x = nI x.toInt.toNat := by
  obtain ⟨j, hj, e⟩ := nI_of (x := x) (by rw [Int32.lt_iff_toInt_lt, show (0 : Int32).toInt = 0 from by decide]; omega)
  rw [e, nI_toInt hj, Int.toNat_natCast]
theorem wSh_1 {c z : Int} {B : Nat} {f : Nat → Int32} (h : c = 1) : wSh (c, z, B, f) = (8, z + 1, 2 * B % 4294967296 % 16777216, upd (wF z.toNat B f) z.toNat (nI (2 * B % 4294967296 / 16777216))) := by
  unfold wSh; exact if_pos h
theorem wSh_n {c z : Int} {B : Nat} {f : Nat → Int32} (h : ¬ c = 1) : wSh (c, z, B, f) = (c - 1, z, 2 * B % 4294967296, wF z.toNat B f) := by
  unfold wSh; exact if_neg h
theorem wF_n {z B : Nat} {f : Nat → Int32} (h : ¬ 2147483648 ≤ B) : f = wF z B f := by unfold wF; rw [if_neg h]
theorem wF_y {z B : Nat} {f : Nat → Int32} (h : 2147483648 ≤ B) : wCar z f = wF z B f := by unfold wF; rw [if_pos h]
theorem wIt_dbl {r : Int} (h1 : 1 ≤ r) (h2 : r < 128) (s : Int × Int × Nat × (Nat → Int32)) : wIt (kdl r).toNat s = wIt (kdl (2 * r)).toNat (wSh s) := by
  have e := kdl_dbl h1 h2
  have := (kdl_le (2 * r)).1
  rw [show (kdl r).toNat = (kdl (2 * r)).toNat + 1 by omega]; rfl
theorem wIt_0 {r : Int} (h : 128 ≤ r) (s : Int × Int × Nat × (Nat → Int32)) : wIt (kdl r).toNat s = s := by rw [kdl_0 h]; rfl
theorem wB1_lt {p b r : Int} {B : Nat} (h : B < 4294967296) : wB1 p b r B < 4294967296 := by
  unfold wB1; split
  · exact h
  · exact Nat.mod_lt _ (by decide)
/-! the reference: a long is lN B -/
theorem lM_and {a k p : Nat} {m : Int64} (hm : m = lN (p - 1)) (hp : 2 ^ k = p) (hk : k < 64) (ha : a < 2 ^ 64) : lN a &&& m = lN (a % p) := by
  subst hm; subst hp
  apply Int64.toBitVec_inj.mp
  apply BitVec.eq_of_toNat_eq
  have h1 : (lN a).toBitVec.toNat = a := Nat.mod_eq_of_lt ha
  have hlt : 2 ^ k < 2 ^ 64 := Nat.pow_lt_pow_right (by decide) hk
  have h0 : 0 < 2 ^ k := Nat.two_pow_pos k
  have h2 : (lN (2 ^ k - 1)).toBitVec.toNat = 2 ^ k - 1 := Nat.mod_eq_of_lt (by omega)
  have h3 : a % 2 ^ k < 2 ^ 64 := Nat.lt_of_lt_of_le (Nat.mod_lt _ h0) (Nat.le_of_lt hlt)
  have h4 : (lN (a % 2 ^ k)).toBitVec.toNat = a % 2 ^ k := Nat.mod_eq_of_lt h3
  rw [Int64.toBitVec_and, BitVec.toNat_and, h1, h2, h4, Nat.and_two_pow_sub_one_eq_mod]
theorem lM_lt {a : Nat} (h : a < 2 ^ 62) (b : Nat) (hb : b < 2 ^ 62) : lg_cmp (lN a) (lN b) < 0 ↔ a < b := by
  unfold lg_cmp
  have e1 : lN a > lN b ↔ b < a := pk_lLT (by omega) (by omega)
  have e2 : lN a = lN b ↔ a = b := pk_lEQ (by omega) (by omega)
  by_cases q : b < a
  · rw [if_pos (e1.mpr q)]; exact ⟨fun h => absurd h (by decide), fun h => by omega⟩
  · rw [if_neg (fun h => q (e1.mp h))]
    by_cases q2 : a = b
    · rw [if_pos (e2.mpr q2)]; exact ⟨fun h => absurd h (by decide), fun h => by omega⟩
    · rw [if_neg (fun h => q2 (e2.mp h))]; exact ⟨fun _ => by omega, fun _ => by decide⟩
theorem lM_i {n : Nat} {x : Int32} (h : x = nI n) (hn : n < 2 ^ 31) : x.toInt64 = lN n := by rw [h]; exact nI_l hn
/-! the end of writing, and feeding, to the byte -/
theorem wb_tb (n : Nat) : (lN n).toBitVec = BitVec.ofNat 64 n := rfl
theorem wb_inj {a b : Int64} (h : a.toBitVec = b.toBitVec) : a = b := Int64.toBitVec_inj.mp h
theorem wb_c : ∀ k, k < 64 → ((nI k).toInt64 &&& 63) = lN k := by decide +kernel
theorem wb_sm : ∀ k, k < 64 → (BitVec.ofNat 64 k).smod 64 = BitVec.ofNat 64 k := by decide +kernel
theorem wb_shl (n : Nat) {k : Nat} (hk : k < 64) : lN n <<< ((nI k).toInt64 &&& 63) = lN (n * 2 ^ k) := by
  rw [wb_c k hk]
  apply wb_inj
  rw [Int64.toBitVec_shiftLeft, wb_tb, wb_tb, wb_tb, wb_sm k hk]
  apply BitVec.eq_of_toNat_eq
  rw [BitVec.shiftLeft_eq', BitVec.toNat_shiftLeft, BitVec.toNat_ofNat, BitVec.toNat_ofNat, BitVec.toNat_ofNat, Nat.mod_eq_of_lt (show k < 2 ^ 64 by omega), Nat.shiftLeft_eq, Nat.mul_mod, Nat.mod_mod, ← Nat.mul_mod]
def wEb (c : Int) (B : Nat) : Nat := B * 2 ^ c.toNat % 4294967296
def wEf (c : Int) (z B : Nat) (f : Nat → Int32) : Nat → Int32 := if B / 2 ^ (32 - c).toNat % 2 = 1 then wCar z f else f
def wAp : Nat → Int × Nat × (Nat → Int32) → Int × Nat × (Nat → Int32)
  | 0, s => s
  | n + 1, s => wAp n (s.1 + 1, 256 * s.2.1 % 4294967296, upd s.2.2 s.1.toNat (nI (s.2.1 / 16777216)))
theorem wAp_s (n : Nat) (z : Int) (V : Nat) (f : Nat → Int32) : wAp (n + 1) (z, V, f) = wAp n (z + 1, 256 * V % 4294967296, upd f z.toNat (nI (V / 16777216))) := rfl
theorem wEb_lt (c : Int) (B : Nat) : wEb c B < 4294967296 := Nat.mod_lt _ (by decide)
theorem wEf_n {c : Int} {z B : Nat} {f : Nat → Int32} (h : ¬ B / 2 ^ (32 - c).toNat % 2 = 1) : f = wEf c z B f := by unfold wEf; rw [if_neg h]
theorem wEf_y {c : Int} {z B : Nat} {f : Nat → Int32} (h : B / 2 ^ (32 - c).toNat % 2 = 1) : wCar z f = wEf c z B f := by unfold wEf; rw [if_pos h]
theorem wDv {c : Int} {B : Nat} (hB : B < 4294967296) : B / 2 ^ (32 - c).toNat < 4294967296 := Nat.lt_of_le_of_lt (Nat.div_le_self _ _) hB
theorem nI_bit0 {n : Nat} {v : Int32} (hv : v = nI (n % 2)) (h : v = 0) : ¬ n % 2 = 1 := fun h9 => absurd (h.symm.trans hv) (by rw [h9]; decide)
theorem nI_bit1 {n : Nat} {v : Int32} (hv : v = nI (n % 2)) (h : ¬ v = 0) : n % 2 = 1 := by
  rcases Nat.mod_two_eq_zero_or_one n with h9 | h9
  · exact absurd (hv.trans (by rw [h9]; decide)) h
  · exact h9
theorem k32 {c x : Int32} (hc : kB c 1 24) (hx : x = 32 - c) : x = nI (32 - c.toInt).toNat ∧ (32 - c.toInt).toNat < 32 := by
  have h32 : (32 : Int32).toInt = 32 := by decide
  have e : x.toInt = 32 - c.toInt := by rw [hx, kI_sub (by rw [h32]; have := hc.2; omega) (by rw [h32]; have := hc.1; omega), h32]
  refine ⟨?_, by have := hc.1; omega⟩
  rw [← e]; exact nI_of_toInt (by have := hc.2; omega)
theorem nI_ushx {B : Nat} {c x : Int32} (hB : B < 4294967296) (hc : kB c 1 24) (hx : x = 32 - c) : ((nI B).toUInt32 >>> (x.toUInt32 &&& Int32.toUInt32 31)).toInt32 = nI (B / 2 ^ (32 - c.toInt).toNat) := by
  obtain ⟨e, h⟩ := k32 hc hx
  rw [e]; exact nI_ush hB (k31u _ h)
theorem nI_shlx {B : Nat} {c : Int32} (hB : B < 4294967296) (hc : kB c 1 24) : nI B <<< (c &&& 31) = nI (wEb c.toInt B) := by
  have e : c = nI c.toInt.toNat := nI_of_toInt (by have := hc.1; omega)
  have h := nI_shlm hB (s := nI c.toInt.toNat &&& 31) (k31 c.toInt.toNat (by have := hc.2; omega))
  rw [← e] at h; exact h
theorem lM_eq {a b : Nat} (h : a < 2 ^ 62) (hb : b < 2 ^ 62) : lg_cmp (lN a) (lN b) = 0 ↔ a = b := by
  unfold lg_cmp
  have e1 : lN a > lN b ↔ b < a := pk_lLT (by omega) (by omega)
  have e2 : lN a = lN b ↔ a = b := pk_lEQ (by omega) (by omega)
  by_cases q : b < a
  · rw [if_pos (e1.mpr q)]; exact ⟨fun h => absurd h (by decide), fun h => by omega⟩
  · rw [if_neg (fun h => q (e1.mp h))]
    by_cases q2 : a = b
    · rw [if_pos (e2.mpr q2)]; exact ⟨fun _ => q2, fun _ => rfl⟩
    · rw [if_neg (fun h => q2 (e2.mp h))]; exact ⟨fun h => absurd h (by decide), fun h => absurd h q2⟩
theorem lM_shr {B : Nat} {c x : Int32} (hB : B < 4294967296) (hc : kB c 1 24) (hx : x = 32 - c) : lN B >>> (x.toInt64 &&& 63) = lN (B / 2 ^ (32 - c.toInt).toNat) := by
  obtain ⟨e, h⟩ := k32 hc hx
  rw [e, wb_c _ (by omega)]
  exact pf_shr (by rw [wb_tb, wb_sm _ (by omega), BitVec.toNat_ofNat, Nat.mod_eq_of_lt (by omega)]) (by omega)
theorem lM_shl {V k : Nat} {x : Int32} (hV : V < 4294967296) (hx : x = nI k) (hk : k < 32) : (lN V <<< (x.toInt64 &&& 63)) &&& 4294967295 = lN (V * 2 ^ k % 4294967296) := by
  rw [hx, wb_shl V (by omega)]
  have h1 : 2 ^ k ≤ 2 ^ 31 := Nat.pow_le_pow_right (by decide) (by omega)
  have h2 : V * 2 ^ k ≤ 4294967296 * 2 ^ 31 := Nat.mul_le_mul (by omega) h1
  exact lM_and (k := 32) (p := 4294967296) (by decide) (by decide) (by decide) (by omega)
theorem k8r {c : Int32} (hc : kB c 1 24) : c - c / 8 * 8 = nI (c.toInt % 8).toNat ∧ (c.toInt % 8).toNat < 32 := by
  obtain ⟨h1, h2⟩ := hc
  obtain ⟨j, hj, rfl⟩ := nI_of (x := c) (by rw [Int32.lt_iff_toInt_lt, show (0 : Int32).toInt = 0 from by decide]; omega)
  rw [nI_toInt hj] at h1 h2 ⊢
  have key : ∀ j, j < 25 → (nI j - nI j / 8 * 8) = nI (j % 8) := by decide
  refine ⟨?_, by omega⟩
  rw [key j (by omega)]; exact congrArg nI (by omega)
theorem k8d {c x : Int32} (hc : kB c 1 24) (hx : x = c / 8) : x.toInt = c.toInt / 8 := by
  rw [hx, lg_idiv_nonneg (by have := hc.1; omega) (by decide)]; rfl
/-- how the reference comes by its last bottom: first the rest, then by bytes -/
def wEs (c x : Int) (V : Nat) : Nat := V * 2 ^ (8 * (c / 8 - x)).toNat % 4294967296
theorem wEs_0 {c : Int} {B : Nat} (h1 : 1 ≤ c) (h2 : c ≤ 24) : wEs c 0 (B * 2 ^ (c % 8).toNat % 4294967296) = wEb c B := by
  unfold wEs wEb
  rw [Nat.mod_mul_mod, Nat.mul_assoc, ← Nat.pow_add, show (c % 8).toNat + (8 * (c / 8 - 0)).toNat = c.toNat by omega]
theorem wEs_s {c x : Int} {V : Nat} (hx : x < c / 8) : wEs c (x + 1) (V * 2 ^ 8 % 4294967296) = wEs c x V := by
  unfold wEs
  rw [Nat.mod_mul_mod, Nat.mul_assoc, ← Nat.pow_add, show 8 + (8 * (c / 8 - (x + 1))).toNat = (8 * (c / 8 - x)).toNat by omega]
theorem wEs_e {c x : Int} {V : Nat} (hx : c / 8 ≤ x) (hV : V < 4294967296) : wEs c x V = V := by
  unfold wEs
  rw [show (8 * (c / 8 - x)).toNat = 0 by omega]; omega
/-! feeding -/
def kby (w : Int32) (i : Nat) : Int32 := nI (w.toBitVec.toNat / 2 ^ (24 - 8 * (i % 4)) % 256)
def wFk (fa fb fc fd : Int32) (i : Nat) : Int32 := kby (if i < 4 then fa else if i < 8 then fb else if i < 12 then fc else fd) i
def wFe (k : Nat → Int32) (z : Nat) : Nat → (Nat → Int32) → (Nat → Int32)
  | 0, f => f
  | n + 1, f => upd (wFe k z n f) (z + n) (k n)
theorem wFe_u {k : Nat → Int32} {f g : Nat → Int32} {s x s2 : Int} {v : Int32} {i : Nat} (hs : 0 ≤ s) (hx : 0 ≤ x) (hz : s2 = s + x) (hi : i = s2.toNat) (hg : g = wFe k s.toNat x.toNat f) (hv : v = k x.toNat) : upd g i v = wFe k s.toNat (x + 1).toNat f := by
  rw [show (x + 1).toNat = x.toNat + 1 by omega]
  show _ = upd (wFe k s.toNat x.toNat f) (s.toNat + x.toNat) (k x.toNat)
  rw [hi, hz, hg, hv, show (s + x).toNat = s.toNat + x.toNat by omega]
theorem wFk_1 {fa fb fc fd : Int32} {x : Int} (h : x < 4) : kby fa x.toNat = wFk fa fb fc fd x.toNat := by unfold wFk; rw [if_pos (by omega)]
theorem wFk_2 {fa fb fc fd : Int32} {x : Int} (h0 : 4 ≤ x) (h : x < 8) : kby fb x.toNat = wFk fa fb fc fd x.toNat := by unfold wFk; rw [if_neg (by omega), if_pos (by omega)]
theorem wFk_3 {fa fb fc fd : Int32} {x : Int} (h0 : 8 ≤ x) (h : x < 12) : kby fc x.toNat = wFk fa fb fc fd x.toNat := by unfold wFk; rw [if_neg (by omega), if_neg (by omega), if_pos (by omega)]
theorem wFk_4 {fa fb fc fd : Int32} {x : Int} (h0 : 12 ≤ x) : kby fd x.toNat = wFk fa fb fc fd x.toNat := by unfold wFk; rw [if_neg (by omega), if_neg (by omega), if_neg (by omega)]
theorem kby_amt : ∀ j, j < 16 → (24 : Int32) - 8 * (nI j - nI j / 4 * 4) = nI (24 - 8 * (j % 4)) := by decide
theorem kbyC {w x v : Int32} (hx : kB x 0 15) (hv : v = 24 - 8 * (x - x / 4 * 4)) : (w.toUInt32 >>> (v.toUInt32 &&& Int32.toUInt32 31)).toInt32 &&& 255 = kby w x.toInt.toNat := by
  obtain ⟨h1, h2⟩ := hx
  obtain ⟨j, hj, rfl⟩ := nI_of (x := x) (by rw [Int32.lt_iff_toInt_lt, show (0 : Int32).toInt = 0 from by decide]; omega)
  rw [nI_toInt hj] at h1 h2 ⊢
  have hj2 : j < 16 := by omega
  rw [hv, kby_amt j hj2, pk_and _ 8 (by decide), pk_ushr w _ _ (k31u _ (by omega)), Int.toNat_natCast]
  rfl
theorem kby_h {w y : Int32} {k : Nat} (hk : k = 0 ∨ k = 8 ∨ k = 16 ∨ k = 24) (e : y.toInt = w.toInt / ((2 ^ k : Nat) : Int)) : y.toBitVec.toNat % 256 = w.toBitVec.toNat / 2 ^ k % 256 := by
  have e1 : y.toInt = if 2 * y.toBitVec.toNat < 2 ^ 32 then (y.toBitVec.toNat : Int) else (y.toBitVec.toNat : Int) - (2 ^ 32 : Nat) := BitVec.toInt_eq_toNat_cond _
  have e2 : w.toInt = if 2 * w.toBitVec.toNat < 2 ^ 32 then (w.toBitVec.toNat : Int) else (w.toBitVec.toNat : Int) - (2 ^ 32 : Nat) := BitVec.toInt_eq_toNat_cond _
  rcases hk with rfl | rfl | rfl | rfl
  · have e3 : y.toInt = w.toInt / 1 := e
    split at e1 <;> split at e2 <;> omega
  · have e3 : y.toInt = w.toInt / 256 := e
    split at e1 <;> split at e2 <;> omega
  · have e3 : y.toInt = w.toInt / 65536 := e
    split at e1 <;> split at e2 <;> omega
  · have e3 : y.toInt = w.toInt / 16777216 := e
    split at e1 <;> split at e2 <;> omega
theorem kbyM {w x v : Int32} (hx : kB x 0 15) (hv : v = 24 - 8 * (x - x / 4 * 4)) : (w >>> (v &&& 31)) &&& 255 = kby w x.toInt.toNat := by
  obtain ⟨h1, h2⟩ := hx
  obtain ⟨j, hj, rfl⟩ := nI_of (x := x) (by rw [Int32.lt_iff_toInt_lt, show (0 : Int32).toInt = 0 from by decide]; omega)
  rw [nI_toInt hj] at h1 h2 ⊢
  have hj2 : j < 16 := by omega
  rw [hv, kby_amt j hj2, pk_and _ 8 (by decide), Int.toNat_natCast]
  have e := pk_shr w (nI (24 - 8 * (j % 4)) &&& 31) (24 - 8 * (j % 4)) (k31 _ (by omega))
  rw [Int.shiftRight_eq_div_pow] at e
  unfold kby
  exact congrArg nI (kby_h (by omega) e)
theorem wPut_lt (p : Int) (bt : Nat → Int) : ∀ (n : Nat) (s : Int × Int × Int × Nat × (Nat → Int32)), s.2.2.2.1 < 4294967296 → (wPut p bt n s).2.2.2.1 < 4294967296
  | 0, _, h => h
  | n + 1, s, h => wPut_lt p bt n _ (wIt_lt _ _ (wB1_lt h))
end
section
theorem kc_m1 : kB (-1 : Int32) (-1) (-1) := ⟨by decide, by decide⟩
theorem kc_0 : kB (0 : Int32) 0 0 := ⟨by decide, by decide⟩
theorem kc_1 : kB (1 : Int32) 1 1 := ⟨by decide, by decide⟩
theorem kc_2 : kB (2 : Int32) 2 2 := ⟨by decide, by decide⟩
theorem kc_7 : kB (7 : Int32) 7 7 := ⟨by decide, by decide⟩
theorem kc_8 : kB (8 : Int32) 8 8 := ⟨by decide, by decide⟩
theorem kc_24 : kB (24 : Int32) 24 24 := ⟨by decide, by decide⟩
theorem kc_128 : kB (128 : Int32) 128 128 := ⟨by decide, by decide⟩
theorem kc_255 : kB (255 : Int32) 255 255 := ⟨by decide, by decide⟩
theorem kc_256 : kB (256 : Int32) 256 256 := ⟨by decide, by decide⟩
theorem kc_600 : kB (600 : Int32) 600 600 := ⟨by decide, by decide⟩
theorem kc_16777215 : kB (16777215 : Int32) 16777215 16777215 := ⟨by decide, by decide⟩
theorem in_X0 : ∀ w ∈ u_ws RX0 TX0 5, w ∈ kW := fun w h => kW_mem ((show ∀ w ∈ u_ws RX0 TX0 5, w ∈ lw_tbl by decide +kernel) w h) ((show ∀ w ∈ u_ws RX0 TX0 5, goodWord w = true by decide +kernel) w h)
theorem in_X1 : ∀ w ∈ u_ws RX1 TX1 4, w ∈ kW := fun w h => kW_mem ((show ∀ w ∈ u_ws RX1 TX1 4, w ∈ lw_tbl by decide +kernel) w h) ((show ∀ w ∈ u_ws RX1 TX1 4, goodWord w = true by decide +kernel) w h)
theorem in_X2 : ∀ w ∈ u_ws RX2 TX2 1, w ∈ kW := fun w h => kW_mem ((show ∀ w ∈ u_ws RX2 TX2 1, w ∈ lw_tbl by decide +kernel) w h) ((show ∀ w ∈ u_ws RX2 TX2 1, goodWord w = true by decide +kernel) w h)
theorem in_X3 : ∀ w ∈ u_ws RX3 TX3 2, w ∈ kW := fun w h => kW_mem ((show ∀ w ∈ u_ws RX3 TX3 2, w ∈ lw_tbl by decide +kernel) w h) ((show ∀ w ∈ u_ws RX3 TX3 2, goodWord w = true by decide +kernel) w h)
theorem in_X4 : ∀ w ∈ u_ws RX4 TX4 14, w ∈ kW := fun w h => kW_mem ((show ∀ w ∈ u_ws RX4 TX4 14, w ∈ lw_tbl by decide +kernel) w h) ((show ∀ w ∈ u_ws RX4 TX4 14, goodWord w = true by decide +kernel) w h)
theorem in_X5 : ∀ w ∈ u_ws RX5 TX5 1, w ∈ kW := fun w h => kW_mem ((show ∀ w ∈ u_ws RX5 TX5 1, w ∈ lw_tbl by decide +kernel) w h) ((show ∀ w ∈ u_ws RX5 TX5 1, goodWord w = true by decide +kernel) w h)
theorem in_X6 : ∀ w ∈ u_ws RX6 TX6 1, w ∈ kW := fun w h => kW_mem ((show ∀ w ∈ u_ws RX6 TX6 1, w ∈ lw_tbl by decide +kernel) w h) ((show ∀ w ∈ u_ws RX6 TX6 1, goodWord w = true by decide +kernel) w h)
theorem in_X7 : ∀ w ∈ u_ws RX7 TX7 5, w ∈ kW := fun w h => kW_mem ((show ∀ w ∈ u_ws RX7 TX7 5, w ∈ lw_tbl by decide +kernel) w h) ((show ∀ w ∈ u_ws RX7 TX7 5, goodWord w = true by decide +kernel) w h)
theorem in_X8 : ∀ w ∈ u_ws RX8 TX8 22, w ∈ kW := fun w h => kW_mem ((show ∀ w ∈ u_ws RX8 TX8 22, w ∈ lw_tbl by decide +kernel) w h) ((show ∀ w ∈ u_ws RX8 TX8 22, goodWord w = true by decide +kernel) w h)
theorem mk_0 : Cond.fieldLink RX3 15 "KeyFrames$Octets" "size" "I" ∈ kW := kW_mem (by decide +kernel) (by decide +kernel)
theorem mk_1 : Cond.fieldLink RX3 9 "KeyFrames$Octets" "held" "[I" ∈ kW := kW_mem (by decide +kernel) (by decide +kernel)
theorem mk_2 : Cond.fieldLink RX1 13 "KeyFrames$BitWriter" "bottom" "I" ∈ kW := kW_mem (by decide +kernel) (by decide +kernel)
theorem mk_3 : Cond.fieldLink RX1 17 "KeyFrames$BitWriter" "range" "I" ∈ kW := kW_mem (by decide +kernel) (by decide +kernel)
theorem mk_4 : Cond.fieldLink RX1 20 "KeyFrames$BitWriter" "shiftsLeft" "I" ∈ kW := kW_mem (by decide +kernel) (by decide +kernel)
theorem mk_5 : Cond.fieldLink RX1 7 "KeyFrames$BitWriter" "octets" "LKeyFrames$Octets;" ∈ kW := kW_mem (by decide +kernel) (by decide +kernel)
theorem mk_6 : Cond.methodLink RX1 37 yX3_append ∈ kW := kW_mem (by decide +kernel) (by decide +kernel)
theorem mk_7 : Cond.instanceMethod yX3_append ∈ kW := kW_mem (by decide +kernel) (by decide +kernel)
theorem mk_8 : Cond.selects RX3 yX3_append yX3_append ∈ kW := kW_mem (by decide +kernel) (by decide +kernel)
theorem mk_9 : Cond.initialized RX3 ∈ kW := kW_mem (by decide +kernel) (by decide +kernel)
theorem mk_10 : Cond.code yX3_append cX3_append 2 none ∈ kW := kW_mem (by decide +kernel) (by decide +kernel)
theorem mk_11 : Cond.constant RX1 41 (16777215) ∈ kW := kW_mem (by decide +kernel) (by decide +kernel)
theorem mk_12 : Cond.methodLink RX1 32 yX3_addOneToLast ∈ kW := kW_mem (by decide +kernel) (by decide +kernel)
theorem mk_13 : Cond.instanceMethod yX3_addOneToLast ∈ kW := kW_mem (by decide +kernel) (by decide +kernel)
theorem mk_14 : Cond.selects RX3 yX3_addOneToLast yX3_addOneToLast ∈ kW := kW_mem (by decide +kernel) (by decide +kernel)
theorem mk_15 : Cond.code yX3_addOneToLast cX3_addOneToLast 2 none ∈ kW := kW_mem (by decide +kernel) (by decide +kernel)
theorem mk_16 : Cond.code yX7_splitOf cX7_splitOf 2 (some .int) ∈ kW := kW_mem (by decide +kernel) (by decide +kernel)
theorem mk_17 : Cond.initialized RX7 ∈ kW := kW_mem (by decide +kernel) (by decide +kernel)
theorem mk_18 : Cond.static yX7_splitOf ∈ kW := kW_mem (by decide +kernel) (by decide +kernel)
theorem mk_19 : Cond.methodLink RX1 29 yX1_shiftBottom ∈ kW := kW_mem (by decide +kernel) (by decide +kernel)
theorem mk_20 : Cond.instanceMethod yX1_shiftBottom ∈ kW := kW_mem (by decide +kernel) (by decide +kernel)
theorem mk_21 : Cond.selects RX1 yX1_shiftBottom yX1_shiftBottom ∈ kW := kW_mem (by decide +kernel) (by decide +kernel)
theorem mk_22 : Cond.initialized RX1 ∈ kW := kW_mem (by decide +kernel) (by decide +kernel)
theorem mk_23 : Cond.code yX1_shiftBottom cX1_shiftBottom 1 none ∈ kW := kW_mem (by decide +kernel) (by decide +kernel)
theorem mk_24 : Cond.fieldLink RX8 32 "KeyFramesModel" "refusal" "I" ∈ kW := kW_mem (by decide +kernel) (by decide +kernel)
theorem mk_25 : Cond.fieldLink RX8 40 "KeyFramesModel" "size" "I" ∈ kW := kW_mem (by decide +kernel) (by decide +kernel)
theorem mk_26 : Cond.fieldLink RX8 47 "KeyFramesModel" "begun" "I" ∈ kW := kW_mem (by decide +kernel) (by decide +kernel)
theorem mk_27 : Cond.fieldLink RX8 50 "KeyFramesModel" "bottom" "J" ∈ kW := kW_mem (by decide +kernel) (by decide +kernel)
theorem mk_28 : Cond.fieldLink RX8 54 "KeyFramesModel" "range" "I" ∈ kW := kW_mem (by decide +kernel) (by decide +kernel)
theorem mk_29 : Cond.fieldLink RX8 57 "KeyFramesModel" "count" "I" ∈ kW := kW_mem (by decide +kernel) (by decide +kernel)
theorem mk_30 : Cond.fieldLink RX8 7 "KeyFramesModel" "bytes" "[I" ∈ kW := kW_mem (by decide +kernel) (by decide +kernel)
theorem mk_31 : Cond.constantLong RX8 60 (255) ∈ kW := kW_mem (by decide +kernel) (by decide +kernel)
theorem mk_32 : Cond.constantLong RX8 62 (4294967295) ∈ kW := kW_mem (by decide +kernel) (by decide +kernel)
theorem mk_33 : Cond.constantLong RX8 64 (2147483648) ∈ kW := kW_mem (by decide +kernel) (by decide +kernel)
theorem mk_34 : Cond.constantLong RX8 69 (2) ∈ kW := kW_mem (by decide +kernel) (by decide +kernel)
theorem mk_35 : Cond.methodLink RX8 71 yX8_append ∈ kW := kW_mem (by decide +kernel) (by decide +kernel)
theorem mk_36 : Cond.instanceMethod yX8_append ∈ kW := kW_mem (by decide +kernel) (by decide +kernel)
theorem mk_37 : Cond.selects RX8 yX8_append yX8_append ∈ kW := kW_mem (by decide +kernel) (by decide +kernel)
theorem mk_38 : Cond.initialized RX8 ∈ kW := kW_mem (by decide +kernel) (by decide +kernel)
theorem mk_39 : Cond.code yX8_append cX8_append 3 none ∈ kW := kW_mem (by decide +kernel) (by decide +kernel)
theorem mk_40 : Cond.constantLong RX8 75 (16777215) ∈ kW := kW_mem (by decide +kernel) (by decide +kernel)
theorem mk_41 : Cond.methodLink RX8 66 yX8_carry ∈ kW := kW_mem (by decide +kernel) (by decide +kernel)
theorem mk_42 : Cond.instanceMethod yX8_carry ∈ kW := kW_mem (by decide +kernel) (by decide +kernel)
theorem mk_43 : Cond.selects RX8 yX8_carry yX8_carry ∈ kW := kW_mem (by decide +kernel) (by decide +kernel)
theorem mk_44 : Cond.code yX8_carry cX8_carry 2 none ∈ kW := kW_mem (by decide +kernel) (by decide +kernel)
end
section
abbrev kw_X7_splitOf : List Cond := Cond.code yX7_splitOf cX7_splitOf 2 (some .int) :: kW
set_option maxHeartbeats 4000000 in
set_option maxRecDepth 100000 in
theorem c_X7_splitOf (l : Launch) (D : va_G) (cI cJ cZ : ClassId) (rg : Int32) (pp : Int32) (brg : kB rg 128 255) (bp : kB pp 0 255) (hpz : Nat) : Met l yX7_splitOf kw_X7_splitOf ({ frames := 0, cells := 0, slots := 0, locals := 0 }) (va_Pc [.int rg, .int pp] (fun U => U.heap.size = hpz ∧ va_P D vwCl [] U.heap ∧ kK D cI cJ cZ U ∧ va_D (fun _ => True) [])) (va_Qi (fun (r : Int32) (u : Unit) => (r.toInt = 1 + (rg.toInt - 1) * pp.toInt / 256) ∧ (r.toInt < rg.toInt) ∧ (kB r 1 254)) (fun (u : Unit) (t : State) => va_P D vwCl [] t.heap ∧ va_D (va_A [] hpz) []) (va_A [] hpz)) 0 0 (va_A [] hpz) := by
  refine Met.ofW (cc := cX7_splitOf) (maxL := 2) (ret := (some .int)) (by decide) rfl ?_
  intro p e s m args below meth c s₁ B hml hv
  obtain ⟨rfl, hsz, hP, hK, hD0⟩ := hv
  have hx := B.exec
  have hb := B.bytes
  have hr := B.returns
  have hts := fun (w : Cond) (h : w ∈ kW) => atoms_spec (ws := kw_X7_splitOf) B.pre w (List.mem_cons_of_mem _ h)
  have hown : s.vm.findClass RX7 = some m.cls := findClass_of_methodNamed B.named
  have hlocks := B.notSynchronized
  subst hsz
  have hD := hD0.self (sz := s.heap.size)
  generalize hAe : va_A [] s.heap.size = A at hD ⊢
  have hA : ∀ q : Nat, s.heap.size ≤ q → A q := fun q h => by rw [← hAe]; exact Or.inr h
  have hS : va_S A s.heap s.heap [] := va_S.rf
  have hP : va_P D vwCl [] s.heap := hP
  have hl := lv_entry ([.int rg, .int pp]) (n := 2) (Nat.le_of_ble_eq_true rfl)
  rw [lg_entry_eq]
  generalize (lg_sl ([.int rg, .int pp]) ++ List.replicate (2 - (lg_sl ([.int rg, .int pp])).length) Slot.unset).toArray = ls at hl ⊢
  have hl : lv_has ls 2 [(0, .int rg), (1, .int pp)] := hl
  refine lv_iconst (v := 1) hx hb dX7_splitOf_0 (by decide) ?_
  refine lv_iload_n hx hb dX7_splitOf_1 rfl (lv_at hl 0 rfl) ?_
  refine lv_iconst (v := 1) hx hb dX7_splitOf_2 (by decide) ?_
  refine lv_isub hx hb dX7_splitOf_3 ?_
  refine lv_topi (fun v3 e3 => ?_)
  have b3 : kB v3 127 254 := kB_eq e3 (kB_sub brg kc_1 (by decide))
  refine lv_iload_n hx hb dX7_splitOf_4 rfl (lv_at hl 1 rfl) ?_
  refine lv_imul hx hb dX7_splitOf_5 ?_
  refine lv_topi (fun v5 e5 => ?_)
  have b5 : kB v5 0 64770 := kB_eq e5 (kB_mul b3 bp (by decide))
  refine lv_bipush (v := 8) hx hb dX7_splitOf_6 (by decide) ?_
  refine lv_ishr hx hb dX7_splitOf_8 ?_
  refine lv_topi (fun v8 e8 => ?_)
  have b8 : kB v8 0 253 := kB_eq e8 (kB_shr 8 (by decide) b5 (by decide))
  refine lv_iadd hx hb dX7_splitOf_9 ?_
  refine lv_topi (fun v9 e9 => ?_)
  have b9 : kB v9 1 254 := kB_eq e9 (kB_add kc_1 b8 (by decide))
  have X10 : v9.toInt = 1 + (rg.toInt - 1) * pp.toInt / 256 := by rw [e9, e8, e5, e3]; exact ksp_toInt brg bp
  have pf_l : v9.toInt < rg.toInt := (by rw [X10]; exact (ksp_lt brg.1 brg.2 bp.1 bp.2).2)
  have pf_b : kB v9 1 254 := ⟨by rw [X10]; exact (ksp_lt brg.1 brg.2 bp.1 bp.2).1, by rw [X10]; have := (ksp_lt brg.1 brg.2 bp.1 bp.2).2; have := brg.2; omega⟩
  exact W.iret (v := v9) hx hb hr (fun t9 ht9 hW9 => ⟨⟨v9, (), rfl, ⟨X10, pf_l, pf_b⟩, by rw [ht9]; exact hP, hD⟩, hS.F ht9⟩) hS.2.2 dX7_splitOf_10
abbrev kw_X3_size : List Cond := Cond.code yX3_size cX3_size 1 (some .int) :: kW
set_option maxHeartbeats 4000000 in
set_option maxRecDepth 100000 in
theorem c_X3_size (l : Launch) (D : va_G) (cI cJ cZ : ClassId) (ho hh : Nat) (sz : Int32) (f : Nat → Int32) (hpz : Nat) : Met l yX3_size kw_X3_size ({ frames := 0, cells := 0, slots := 0, locals := 0 }) (va_Pc [.ref ho] (fun U => U.heap.size = hpz ∧ va_P D vwCl [(ho, .inr (3, [.ref hh, .int sz])), (hh, .inl (cI, 600, .inl f))] U.heap ∧ kK D cI cJ cZ U ∧ va_D (fun _ => True) [(ho, .inr (3, [.ref hh, .int sz])), (hh, .inl (cI, 600, .inl f))])) (va_Qi (fun (r : Int32) (u : Unit) => (r = sz)) (fun (u : Unit) (t : State) => va_P D vwCl [(ho, .inr (3, [.ref hh, .int sz])), (hh, .inl (cI, 600, .inl f))] t.heap ∧ va_D (va_A [(ho, .inr (3, [.ref hh, .int sz])), (hh, .inl (cI, 600, .inl f))] hpz) [(ho, .inr (3, [.ref hh, .int sz])), (hh, .inl (cI, 600, .inl f))]) (va_A [(ho, .inr (3, [.ref hh, .int sz])), (hh, .inl (cI, 600, .inl f))] hpz)) 0 0 (va_A [(ho, .inr (3, [.ref hh, .int sz])), (hh, .inl (cI, 600, .inl f))] hpz) := by
  refine Met.ofW (cc := cX3_size) (maxL := 1) (ret := (some .int)) (by decide) rfl ?_
  intro p e s m args below meth c s₁ B hml hv
  obtain ⟨rfl, hsz, hP, hK, hD0⟩ := hv
  have hx := B.exec
  have hb := B.bytes
  have hr := B.returns
  have hts := fun (w : Cond) (h : w ∈ kW) => atoms_spec (ws := kw_X3_size) B.pre w (List.mem_cons_of_mem _ h)
  have hown : s.vm.findClass RX3 = some m.cls := findClass_of_methodNamed B.named
  have hlocks := B.notSynchronized
  subst hsz
  have hD := hD0.self (sz := s.heap.size)
  generalize hAe : va_A [(ho, .inr (3, [.ref hh, .int sz])), (hh, .inl (cI, 600, .inl f))] s.heap.size = A at hD ⊢
  have hA : ∀ q : Nat, s.heap.size ≤ q → A q := fun q h => by rw [← hAe]; exact Or.inr h
  have hS : va_S A s.heap s.heap [] := va_S.rf
  have hP : va_P D vwCl [(ho, .inr (3, [.ref hh, .int sz])), (hh, .inl (cI, 600, .inl f))] s.heap := hP
  have hl := lv_entry ([.ref ho]) (n := 1) (Nat.le_of_ble_eq_true rfl)
  rw [lg_entry_eq]
  generalize (lg_sl ([.ref ho]) ++ List.replicate (1 - (lg_sl ([.ref ho])).length) Slot.unset).toArray = ls at hl ⊢
  have hl : lv_has ls 1 [(0, .ref ho)] := hl
  refine lv_aload_n hx hb dX3_size_0 rfl (lv_at hl 0 rfl) ?_
  refine va_get (D := D) (ci := 3) (v := .int sz) (C := RX3) (T := TX3) (N := 2) hx hb hts in_X3 hown hK.1 hP 0 rfl rfl 1 (by decide) (hts _ mk_0) (fun _ h9 => h9) rfl dX3_size_1 ?_
  exact W.iret (v := sz) hx hb hr (fun t9 ht9 hW9 => ⟨⟨sz, (), rfl, rfl, by rw [ht9]; exact hP, hD⟩, hS.F ht9⟩) hS.2.2 dX3_size_4
abbrev kw_X3_clear : List Cond := Cond.code yX3_clear cX3_clear 1 none :: kW
set_option maxHeartbeats 4000000 in
set_option maxRecDepth 100000 in
theorem c_X3_clear (l : Launch) (D : va_G) (cI cJ cZ : ClassId) (ho hh : Nat) (sz : Int32) (f : Nat → Int32) (hpz : Nat) : Met l yX3_clear kw_X3_clear ({ frames := 0, cells := 0, slots := 0, locals := 0 }) (va_Pc [.ref ho] (fun U => U.heap.size = hpz ∧ va_P D vwCl [(ho, .inr (3, [.ref hh, .int sz])), (hh, .inl (cI, 600, .inl f))] U.heap ∧ kK D cI cJ cZ U ∧ va_D (fun _ => True) [(ho, .inr (3, [.ref hh, .int sz])), (hh, .inl (cI, 600, .inl f))])) (va_Qv (fun (u : Unit) => True) (fun (u : Unit) (t : State) => va_P D vwCl [(ho, .inr (3, [.ref hh, .int 0])), (hh, .inl (cI, 600, .inl f))] t.heap ∧ va_D (va_A [(ho, .inr (3, [.ref hh, .int sz])), (hh, .inl (cI, 600, .inl f))] hpz) [(ho, .inr (3, [.ref hh, .int 0])), (hh, .inl (cI, 600, .inl f))]) (va_A [(ho, .inr (3, [.ref hh, .int sz])), (hh, .inl (cI, 600, .inl f))] hpz)) 0 0 (va_A [(ho, .inr (3, [.ref hh, .int sz])), (hh, .inl (cI, 600, .inl f))] hpz) := by
  refine Met.ofW (cc := cX3_clear) (maxL := 1) (ret := none) (by decide) rfl ?_
  intro p e s m args below meth c s₁ B hml hv
  obtain ⟨rfl, hsz, hP, hK, hD0⟩ := hv
  have hx := B.exec
  have hb := B.bytes
  have hr := B.returns
  have hts := fun (w : Cond) (h : w ∈ kW) => atoms_spec (ws := kw_X3_clear) B.pre w (List.mem_cons_of_mem _ h)
  have hown : s.vm.findClass RX3 = some m.cls := findClass_of_methodNamed B.named
  have hlocks := B.notSynchronized
  subst hsz
  have hD := hD0.self (sz := s.heap.size)
  generalize hAe : va_A [(ho, .inr (3, [.ref hh, .int sz])), (hh, .inl (cI, 600, .inl f))] s.heap.size = A at hD ⊢
  have hA : ∀ q : Nat, s.heap.size ≤ q → A q := fun q h => by rw [← hAe]; exact Or.inr h
  have hS : va_S A s.heap s.heap [] := va_S.rf
  have hP : va_P D vwCl [(ho, .inr (3, [.ref hh, .int sz])), (hh, .inl (cI, 600, .inl f))] s.heap := hP
  have hl := lv_entry ([.ref ho]) (n := 1) (Nat.le_of_ble_eq_true rfl)
  rw [lg_entry_eq]
  generalize (lg_sl ([.ref ho]) ++ List.replicate (1 - (lg_sl ([.ref ho])).length) Slot.unset).toArray = ls at hl ⊢
  have hl : lv_has ls 1 [(0, .ref ho)] := hl
  refine lv_aload_n hx hb dX3_clear_0 rfl (lv_at hl 0 rfl) ?_
  refine lv_iconst (v := 0) hx hb dX3_clear_1 (by decide) ?_
  refine va_put (D := D) (ci := 3) (v := .int 0) (ty := .int) (C := RX3) (T := TX3) (N := 2) hx hb hts in_X3 tyX3 tyX3_ok nmX3 hown hK.1 hP hD hS 0 rfl rfl 1 (by decide) (hts _ mk_0) (fun _ h9 => h9) rfl (by decide +kernel) rfl rfl (Nat.le_of_ble_eq_true rfl) dX3_clear_2 (fun H locs hP hD hS => ?_)
  have hP : va_P D vwCl [(ho, .inr (3, [.ref hh, .int 0])), (hh, .inl (cI, 600, .inl f))] H := hP
  have hD : va_D A [(ho, .inr (3, [.ref hh, .int 0])), (hh, .inl (cI, 600, .inl f))] := hD
  exact W.vret hx hb hr (fun t9 ht9 hW9 => ⟨⟨(), rfl, trivial, by rw [ht9]; exact hP, hD⟩, hS.F ht9⟩) hS.2.2 dX3_clear_5
abbrev kw_X3_append : List Cond := Cond.code yX3_append cX3_append 2 none :: kW
set_option maxHeartbeats 4000000 in
set_option maxRecDepth 100000 in
theorem c_X3_append (l : Launch) (D : va_G) (cI cJ cZ : ClassId) (ho hh : Nat) (sz : Int32) (f : Nat → Int32) (k : Int32) (bsz : kB sz 0 600) (hpz : Nat) : Met l yX3_append kw_X3_append ({ frames := 0, cells := 0, slots := 0, locals := 0 }) (va_Pc [.ref ho, .int k] (fun U => U.heap.size = hpz ∧ va_P D vwCl [(ho, .inr (3, [.ref hh, .int sz])), (hh, .inl (cI, 600, .inl f))] U.heap ∧ kK D cI cJ cZ U ∧ va_D (fun _ => True) [(ho, .inr (3, [.ref hh, .int sz])), (hh, .inl (cI, 600, .inl f))])) (va_Qv (fun (u : Int32 × (Nat → Int32)) => (kB u.1 0 600) ∧ (u.1.toInt = if sz.toInt < 600 then sz.toInt + 1 else sz.toInt) ∧ (sz.toInt < 600 → u.2 = upd f sz.toNatClampNeg (k &&& 255))) (fun (u : Int32 × (Nat → Int32)) (t : State) => va_P D vwCl [(ho, .inr (3, [.ref hh, .int u.1])), (hh, .inl (cI, 600, .inl u.2))] t.heap ∧ va_D (va_A [(ho, .inr (3, [.ref hh, .int sz])), (hh, .inl (cI, 600, .inl f))] hpz) [(ho, .inr (3, [.ref hh, .int u.1])), (hh, .inl (cI, 600, .inl u.2))]) (va_A [(ho, .inr (3, [.ref hh, .int sz])), (hh, .inl (cI, 600, .inl f))] hpz)) 0 0 (va_A [(ho, .inr (3, [.ref hh, .int sz])), (hh, .inl (cI, 600, .inl f))] hpz) := by
  refine Met.ofW (cc := cX3_append) (maxL := 2) (ret := none) (by decide) rfl ?_
  intro p e s m args below meth c s₁ B hml hv
  obtain ⟨rfl, hsz, hP, hK, hD0⟩ := hv
  have hx := B.exec
  have hb := B.bytes
  have hr := B.returns
  have hts := fun (w : Cond) (h : w ∈ kW) => atoms_spec (ws := kw_X3_append) B.pre w (List.mem_cons_of_mem _ h)
  have hown : s.vm.findClass RX3 = some m.cls := findClass_of_methodNamed B.named
  have hlocks := B.notSynchronized
  subst hsz
  have hD := hD0.self (sz := s.heap.size)
  generalize hAe : va_A [(ho, .inr (3, [.ref hh, .int sz])), (hh, .inl (cI, 600, .inl f))] s.heap.size = A at hD ⊢
  have hA : ∀ q : Nat, s.heap.size ≤ q → A q := fun q h => by rw [← hAe]; exact Or.inr h
  have hS : va_S A s.heap s.heap [] := va_S.rf
  have hP : va_P D vwCl [(ho, .inr (3, [.ref hh, .int sz])), (hh, .inl (cI, 600, .inl f))] s.heap := hP
  have hl := lv_entry ([.ref ho, .int k]) (n := 2) (Nat.le_of_ble_eq_true rfl)
  rw [lg_entry_eq]
  generalize (lg_sl ([.ref ho, .int k]) ++ List.replicate (2 - (lg_sl ([.ref ho, .int k])).length) Slot.unset).toArray = ls at hl ⊢
  have hl : lv_has ls 2 [(0, .ref ho), (1, .int k)] := hl
  refine lv_aload_n hx hb dX3_append_0 rfl (lv_at hl 0 rfl) ?_
  refine va_get (D := D) (ci := 3) (v := .int sz) (C := RX3) (T := TX3) (N := 2) hx hb hts in_X3 hown hK.1 hP 0 rfl rfl 1 (by decide) (hts _ mk_0) (fun _ h9 => h9) rfl dX3_append_1 ?_
  refine lv_sipush (v := 600) hx hb dX3_append_4 (by decide) ?_
  refine lv_icmp_ge (tgt := 34) hx hb dX3_append_7 (by decide) (fun c7 => ?_) (fun c7 => ?_)
  · have c7y : kB sz 600 600 := kB_le_r kc_600 bsz c7 (by decide)
    have K7 : ¬ sz.toInt < 600 := by have := c7y.1; omega
    have pf_b : kB sz 0 600 := (kB_w c7y (by decide) (by decide))
    have pf_x : sz.toInt = if sz.toInt < 600 then sz.toInt + 1 else sz.toInt := (by rw [if_neg K7])
    have pf_y : sz.toInt < 600 → f = upd f sz.toNatClampNeg (k &&& 255) := (fun h => absurd h K7)
    exact W.vret hx hb hr (fun t9 ht9 hW9 => ⟨⟨(sz, f), rfl, ⟨pf_b, pf_x, pf_y⟩, by rw [ht9]; exact hP, hD⟩, hS.F ht9⟩) hS.2.2 dX3_append_34
  · have c7n : sz < 600 := kN_le c7
    have c7nx : kB sz 0 599 := kB_lt_l bsz kc_600 c7n (by decide)
    have K7 : sz.toInt < 600 := by have := c7nx.2; omega
    refine lv_aload_n hx hb dX3_append_10 rfl (lv_at hl 0 rfl) ?_
    refine va_get (D := D) (ci := 3) (v := .ref hh) (C := RX3) (T := TX3) (N := 2) hx hb hts in_X3 hown hK.1 hP 0 rfl rfl 0 (by decide) (hts _ mk_1) (fun _ h9 => h9) rfl dX3_append_11 ?_
    refine lv_aload_n hx hb dX3_append_14 rfl (lv_at hl 0 rfl) ?_
    refine va_get (D := D) (ci := 3) (v := .int sz) (C := RX3) (T := TX3) (N := 2) hx hb hts in_X3 hown hK.1 hP 0 rfl rfl 1 (by decide) (hts _ mk_0) (fun _ h9 => h9) rfl dX3_append_15 ?_
    refine lv_iload_n hx hb dX3_append_18 rfl (lv_at hl 1 rfl) ?_
    refine lv_sipush (v := 255) hx hb dX3_append_19 (by decide) ?_
    refine lv_iand hx hb dX3_append_22 ?_
    refine lv_topi (fun v22 e22 => ?_)
    have b22 : kB v22 0 255 := kB_eq e22 (kB_and 8 (by decide) (by decide))
    refine va_iast hx hb hK.1 hP hD hS 1 0 rfl rfl (kB_in c7nx (by decide)) dX3_append_23 (fun H locs hP hD hS => ?_)
    have hP : va_P D vwCl [(ho, .inr (3, [.ref hh, .int sz])), (hh, .inl (cI, 600, .inl (upd f sz.toNatClampNeg v22)))] H := hP
    have hD : va_D A [(ho, .inr (3, [.ref hh, .int sz])), (hh, .inl (cI, 600, .inl (upd f sz.toNatClampNeg v22)))] := hD
    generalize hf23 : upd f sz.toNatClampNeg v22 = f23 at hP hD
    refine lv_aload_n hx hb dX3_append_24 rfl (lv_at hl 0 rfl) ?_
    refine lv_dup hx hb dX3_append_25 rfl ?_
    refine va_get (D := D) (ci := 3) (v := .int sz) (C := RX3) (T := TX3) (N := 2) hx hb hts in_X3 hown hK.1 hP 0 rfl rfl 1 (by decide) (hts _ mk_0) (fun _ h9 => h9) rfl dX3_append_26 ?_
    refine lv_iconst (v := 1) hx hb dX3_append_29 (by decide) ?_
    refine lv_iadd hx hb dX3_append_30 ?_
    refine lv_topi (fun v30 e30 => ?_)
    have b30 : kB v30 1 600 := kB_eq e30 (kB_add c7nx kc_1 (by decide))
    have K30 : v30.toInt = sz.toInt + 1 := by rw [e30, kI_add (by rw [show (1 : Int32).toInt = 1 from by decide]; have := bsz.1; omega) (by rw [show (1 : Int32).toInt = 1 from by decide]; omega), show (1 : Int32).toInt = 1 from by decide]
    refine va_put (D := D) (ci := 3) (v := .int v30) (ty := .int) (C := RX3) (T := TX3) (N := 2) hx hb hts in_X3 tyX3 tyX3_ok nmX3 hown hK.1 hP hD hS 0 rfl rfl 1 (by decide) (hts _ mk_0) (fun _ h9 => h9) rfl (by decide +kernel) rfl rfl (Nat.le_of_ble_eq_true rfl) dX3_append_31 (fun H locs hP hD hS => ?_)
    have hP : va_P D vwCl [(ho, .inr (3, [.ref hh, .int v30])), (hh, .inl (cI, 600, .inl f23))] H := hP
    have hD : va_D A [(ho, .inr (3, [.ref hh, .int v30])), (hh, .inl (cI, 600, .inl f23))] := hD
    have pf_b : kB v30 0 600 := (kB_w b30 (by decide) (by decide))
    have pf_x : v30.toInt = if sz.toInt < 600 then sz.toInt + 1 else sz.toInt := (by rw [if_pos K7]; exact K30)
    have pf_y : sz.toInt < 600 → f23 = upd f sz.toNatClampNeg (k &&& 255) := (fun _ => by rw [← hf23, e22])
    exact W.vret hx hb hr (fun t9 ht9 hW9 => ⟨⟨(v30, f23), rfl, ⟨pf_b, pf_x, pf_y⟩, by rw [ht9]; exact hP, hD⟩, hS.F ht9⟩) hS.2.2 dX3_append_34
abbrev kw_X3_at : List Cond := Cond.code yX3_at cX3_at 2 (some .int) :: kW
set_option maxHeartbeats 4000000 in
set_option maxRecDepth 100000 in
theorem c_X3_at (l : Launch) (D : va_G) (cI cJ cZ : ClassId) (ho hh : Nat) (sz : Int32) (f : Nat → Int32) (k : Int32) (bsz : kB sz 0 600) (hpz : Nat) : Met l yX3_at kw_X3_at ({ frames := 0, cells := 0, slots := 0, locals := 0 }) (va_Pc [.ref ho, .int k] (fun U => U.heap.size = hpz ∧ va_P D vwCl [(ho, .inr (3, [.ref hh, .int sz])), (hh, .inl (cI, 600, .inl f))] U.heap ∧ kK D cI cJ cZ U ∧ va_D (fun _ => True) [(ho, .inr (3, [.ref hh, .int sz])), (hh, .inl (cI, 600, .inl f))])) (va_Qi (fun (r : Int32) (u : Unit) => (r = if 0 ≤ k.toInt ∧ k.toInt < sz.toInt then f k.toNatClampNeg else 0)) (fun (u : Unit) (t : State) => va_P D vwCl [(ho, .inr (3, [.ref hh, .int sz])), (hh, .inl (cI, 600, .inl f))] t.heap ∧ va_D (va_A [(ho, .inr (3, [.ref hh, .int sz])), (hh, .inl (cI, 600, .inl f))] hpz) [(ho, .inr (3, [.ref hh, .int sz])), (hh, .inl (cI, 600, .inl f))]) (va_A [(ho, .inr (3, [.ref hh, .int sz])), (hh, .inl (cI, 600, .inl f))] hpz)) 0 0 (va_A [(ho, .inr (3, [.ref hh, .int sz])), (hh, .inl (cI, 600, .inl f))] hpz) := by
  refine Met.ofW (cc := cX3_at) (maxL := 2) (ret := (some .int)) (by decide) rfl ?_
  intro p e s m args below meth c s₁ B hml hv
  obtain ⟨rfl, hsz, hP, hK, hD0⟩ := hv
  have hx := B.exec
  have hb := B.bytes
  have hr := B.returns
  have hts := fun (w : Cond) (h : w ∈ kW) => atoms_spec (ws := kw_X3_at) B.pre w (List.mem_cons_of_mem _ h)
  have hown : s.vm.findClass RX3 = some m.cls := findClass_of_methodNamed B.named
  have hlocks := B.notSynchronized
  subst hsz
  have hD := hD0.self (sz := s.heap.size)
  generalize hAe : va_A [(ho, .inr (3, [.ref hh, .int sz])), (hh, .inl (cI, 600, .inl f))] s.heap.size = A at hD ⊢
  have hA : ∀ q : Nat, s.heap.size ≤ q → A q := fun q h => by rw [← hAe]; exact Or.inr h
  have hS : va_S A s.heap s.heap [] := va_S.rf
  have hP : va_P D vwCl [(ho, .inr (3, [.ref hh, .int sz])), (hh, .inl (cI, 600, .inl f))] s.heap := hP
  have hl := lv_entry ([.ref ho, .int k]) (n := 2) (Nat.le_of_ble_eq_true rfl)
  rw [lg_entry_eq]
  generalize (lg_sl ([.ref ho, .int k]) ++ List.replicate (2 - (lg_sl ([.ref ho, .int k])).length) Slot.unset).toArray = ls at hl ⊢
  have hl : lv_has ls 2 [(0, .ref ho), (1, .int k)] := hl
  refine lv_iload_n hx hb dX3_at_0 rfl (lv_at hl 1 rfl) ?_
  refine lv_if_lt (tgt := 21) hx hb dX3_at_1 (by decide) (fun c1 => ?_) (fun c1 => ?_)
  · have c1a := kB_all k
    have c1x : kB k (-2147483648) (-1) := kB_lt_l c1a kc_0 c1 (by decide)
    have K1 : ¬ (0 ≤ k.toInt ∧ k.toInt < sz.toInt) := fun h => by have := Int32.lt_iff_toInt_lt.mp c1; rw [show (0 : Int32).toInt = 0 from by decide] at this; omega
    refine lv_iconst (v := 0) hx hb dX3_at_21 (by decide) ?_
    have pf_x : (0 : Int32) = if 0 ≤ k.toInt ∧ k.toInt < sz.toInt then f k.toNatClampNeg else 0 := (by rw [if_neg K1])
    exact W.iret (v := 0) hx hb hr (fun t9 ht9 hW9 => ⟨⟨0, (), rfl, pf_x, by rw [ht9]; exact hP, hD⟩, hS.F ht9⟩) hS.2.2 dX3_at_22
  · have c1n : 0 ≤ k := kN_lt c1
    have c1nb := kB_all k
    have c1ny : kB k 0 2147483647 := kB_le_r kc_0 c1nb c1n (by decide)
    refine lv_iload_n hx hb dX3_at_4 rfl (lv_at hl 1 rfl) ?_
    refine lv_aload_n hx hb dX3_at_5 rfl (lv_at hl 0 rfl) ?_
    refine va_get (D := D) (ci := 3) (v := .int sz) (C := RX3) (T := TX3) (N := 2) hx hb hts in_X3 hown hK.1 hP 0 rfl rfl 1 (by decide) (hts _ mk_0) (fun _ h9 => h9) rfl dX3_at_6 ?_
    refine lv_icmp_ge (tgt := 21) hx hb dX3_at_9 (by decide) (fun c9 => ?_) (fun c9 => ?_)
    · have K1 : ¬ (0 ≤ k.toInt ∧ k.toInt < sz.toInt) := fun h => by have := Int32.le_iff_toInt_le.mp c9; omega
      refine lv_iconst (v := 0) hx hb dX3_at_21 (by decide) ?_
      have pf_x : (0 : Int32) = if 0 ≤ k.toInt ∧ k.toInt < sz.toInt then f k.toNatClampNeg else 0 := (by rw [if_neg K1])
      exact W.iret (v := 0) hx hb hr (fun t9 ht9 hW9 => ⟨⟨0, (), rfl, pf_x, by rw [ht9]; exact hP, hD⟩, hS.F ht9⟩) hS.2.2 dX3_at_22
    · have c9n : k < sz := kN_le c9
      have c9nx : kB k 0 599 := kB_lt_l c1ny bsz c9n (by decide)
      have c9ny : kB sz 1 600 := kB_lt_r c1ny bsz c9n (by decide)
      have K1 : (0 ≤ k.toInt ∧ k.toInt < sz.toInt) := ⟨c1ny.1, Int32.lt_iff_toInt_lt.mp c9n⟩
      refine lv_aload_n hx hb dX3_at_12 rfl (lv_at hl 0 rfl) ?_
      refine va_get (D := D) (ci := 3) (v := .ref hh) (C := RX3) (T := TX3) (N := 2) hx hb hts in_X3 hown hK.1 hP 0 rfl rfl 0 (by decide) (hts _ mk_1) (fun _ h9 => h9) rfl dX3_at_13 ?_
      refine lv_iload_n hx hb dX3_at_16 rfl (lv_at hl 1 rfl) ?_
      refine va_iald hx hb hK.1 hP 1 0 rfl rfl (kB_in c9nx (by decide)) dX3_at_17 ?_
      refine lv_topi (fun v17 e17 => ?_)
      refine lv_goto (tgt := 22) hx hb dX3_at_18 (by decide) ?_
      have pf_x : v17 = if 0 ≤ k.toInt ∧ k.toInt < sz.toInt then f k.toNatClampNeg else 0 := (by rw [if_pos K1, e17])
      exact W.iret (v := v17) hx hb hr (fun t9 ht9 hW9 => ⟨⟨v17, (), rfl, pf_x, by rw [ht9]; exact hP, hD⟩, hS.F ht9⟩) hS.2.2 dX3_at_22
abbrev kw_X3_addOneToLast : List Cond := Cond.code yX3_addOneToLast cX3_addOneToLast 2 none :: kW
set_option maxHeartbeats 4000000 in
set_option maxRecDepth 100000 in
theorem lp_X3_addOneToLast_7 {p : Program} {l : Launch} {e : Env} {s : State} {m : MethodId} {args : Array Value} {below : List Frame} {meth : Method} {c : Code} {A : Nat → Prop} (D : va_G) (cI cJ cZ : ClassId) (ho hh : Nat) (sz : Int32) (f : Nat → Int32) (bsz : kB sz 0 600) (hx : p.tables.exec = Jvm.exec) (hb : c.code = cX3_addOneToLast) (hr : meth.sig.returnType = none) (hml : c.maxLocals = 2) (hown : s.vm.findClass RX3 = some m.cls) (hts : ∀ w ∈ kW, w.before args s = true) (hlocks : meth.locks = false) (hK : kK D cI cJ cZ s) (hA : ∀ q : Nat, s.heap.size ≤ q → A q) : ∀ n : Nat, ∀ (x1 : Int32) (f2 : Nat → Int32), (x1.toInt + 1).toNat < n → (kB x1 (-1) 599) → (wCar (x1.toInt + 1).toNat f2 = wCar sz.toInt.toNat f) → ∀ (H : Heap) (locs : List Loc) (ls : Array Slot), va_P D vwCl [(ho, .inr (3, [.ref hh, .int sz])), (hh, .inl (cI, 600, .inl f2))] H → va_D A [(ho, .inr (3, [.ref hh, .int sz])), (hh, .inl (cI, 600, .inl f2))] → va_S A s.heap H locs → lv_has ls 2 [(0, .ref ho), (1, .int x1)] → W p l e (headSpec kw_X3_addOneToLast ({ frames := 0, cells := 0, slots := 0, locals := 0 })).room s m args below meth c H locs 0 0 (MQ below (va_Qv (fun (u : (Nat → Int32)) => (u = wCar sz.toInt.toNat f)) (fun (u : (Nat → Int32)) (t : State) => va_P D vwCl [(ho, .inr (3, [.ref hh, .int sz])), (hh, .inl (cI, 600, .inl u))] t.heap ∧ va_D A [(ho, .inr (3, [.ref hh, .int sz])), (hh, .inl (cI, 600, .inl u))]) A) args s 0 0 A) (F0 m 7 ls []) := by
  intro n
  induction n with
  | zero => intro x1 f2 hmeas; exact absurd hmeas (Nat.not_lt_zero _)
  | succ n ih =>
    intro x1 f2 hmeas b1 hc H locs ls hP hD hS hl
    refine lv_iload_n hx hb dX3_addOneToLast_7 rfl (lv_at hl 1 rfl) ?_
    refine lv_if_lt (tgt := 36) hx hb dX3_addOneToLast_8 (by decide) (fun c8 => ?_) (fun c8 => ?_)
    · have c8x : kB x1 (-1) (-1) := kB_lt_l b1 kc_0 c8 (by decide)
      refine lv_iload_n hx hb dX3_addOneToLast_36 rfl (lv_at hl 1 rfl) ?_
      refine lv_if_lt (tgt := 50) hx hb dX3_addOneToLast_37 (by decide) (fun c37 => ?_) (fun c37 => ?_)
      · have pf_c : f2 = wCar sz.toInt.toNat f := (by rw [← hc, wCar_0 (by have := c8x.2; omega)])
        exact W.vret hx hb hr (fun t9 ht9 hW9 => ⟨⟨f2, rfl, pf_c, by rw [ht9]; exact hP, hD⟩, hS.F ht9⟩) hS.2.2 dX3_addOneToLast_50
      · have c37n : 0 ≤ x1 := kN_lt c37
        have c37ny : kB x1 0 (-1) := kB_le_r kc_0 c8x c37n (by decide)
        exact absurd (Int.le_trans c37ny.1 c37ny.2) (by decide)
    · have c8n : 0 ≤ x1 := kN_lt c8
      have c8ny : kB x1 0 599 := kB_le_r kc_0 b1 c8n (by decide)
      refine lv_aload_n hx hb dX3_addOneToLast_11 rfl (lv_at hl 0 rfl) ?_
      refine va_get (D := D) (ci := 3) (v := .ref hh) (C := RX3) (T := TX3) (N := 2) hx hb hts in_X3 hown hK.1 hP 0 rfl rfl 0 (by decide) (hts _ mk_1) (fun _ h9 => h9) rfl dX3_addOneToLast_12 ?_
      refine lv_iload_n hx hb dX3_addOneToLast_15 rfl (lv_at hl 1 rfl) ?_
      refine va_iald hx hb hK.1 hP 1 0 rfl rfl (kB_in c8ny (by decide)) dX3_addOneToLast_16 ?_
      refine lv_topi (fun v16 e16 => ?_)
      refine lv_sipush (v := 255) hx hb dX3_addOneToLast_17 (by decide) ?_
      refine lv_icmp_ne (tgt := 36) hx hb dX3_addOneToLast_20 (by decide) (fun c20 => ?_) (fun c20 => ?_)
      · refine lv_iload_n hx hb dX3_addOneToLast_36 rfl (lv_at hl 1 rfl) ?_
        refine lv_if_lt (tgt := 50) hx hb dX3_addOneToLast_37 (by decide) (fun c37 => ?_) (fun c37 => ?_)
        · have c37x : kB x1 0 (-1) := kB_lt_l c8ny kc_0 c37 (by decide)
          exact absurd (Int.le_trans c37x.1 c37x.2) (by decide)
        · have c37n : 0 ≤ x1 := kN_lt c37
          refine lv_aload_n hx hb dX3_addOneToLast_40 rfl (lv_at hl 0 rfl) ?_
          refine va_get (D := D) (ci := 3) (v := .ref hh) (C := RX3) (T := TX3) (N := 2) hx hb hts in_X3 hown hK.1 hP 0 rfl rfl 0 (by decide) (hts _ mk_1) (fun _ h9 => h9) rfl dX3_addOneToLast_41 ?_
          refine lv_iload_n hx hb dX3_addOneToLast_44 rfl (lv_at hl 1 rfl) ?_
          refine lv_dup2_11 hx hb dX3_addOneToLast_45 rfl rfl ?_
          refine va_iald hx hb hK.1 hP 1 0 rfl rfl (kB_in c8ny (by decide)) dX3_addOneToLast_46 ?_
          refine lv_topi (fun v46 e46 => ?_)
          refine lv_iconst (v := 1) hx hb dX3_addOneToLast_47 (by decide) ?_
          refine lv_iadd hx hb dX3_addOneToLast_48 ?_
          refine lv_topi (fun v48 e48 => ?_)
          refine va_iast hx hb hK.1 hP hD hS 1 0 rfl rfl (kB_in c8ny (by decide)) dX3_addOneToLast_49 (fun H locs hP hD hS => ?_)
          have hP : va_P D vwCl [(ho, .inr (3, [.ref hh, .int sz])), (hh, .inl (cI, 600, .inl (upd f2 x1.toNatClampNeg v48)))] H := hP
          have hD : va_D A [(ho, .inr (3, [.ref hh, .int sz])), (hh, .inl (cI, 600, .inl (upd f2 x1.toNatClampNeg v48)))] := hD
          generalize hf49 : upd f2 x1.toNatClampNeg v48 = f49 at hP hD
          have pf_c : f49 = wCar sz.toInt.toNat f := (by rw [← hc, wCar_n c8ny.1 (by rw [← e16]; exact c20), ← hf49, e48, e46])
          exact W.vret hx hb hr (fun t9 ht9 hW9 => ⟨⟨f49, rfl, pf_c, by rw [ht9]; exact hP, hD⟩, hS.F ht9⟩) hS.2.2 dX3_addOneToLast_50
      · have c20x : kB v16 255 255 := kB_eq c20 kc_255
        refine lv_aload_n hx hb dX3_addOneToLast_23 rfl (lv_at hl 0 rfl) ?_
        refine va_get (D := D) (ci := 3) (v := .ref hh) (C := RX3) (T := TX3) (N := 2) hx hb hts in_X3 hown hK.1 hP 0 rfl rfl 0 (by decide) (hts _ mk_1) (fun _ h9 => h9) rfl dX3_addOneToLast_24 ?_
        refine lv_iload_n hx hb dX3_addOneToLast_27 rfl (lv_at hl 1 rfl) ?_
        refine lv_iconst (v := 0) hx hb dX3_addOneToLast_28 (by decide) ?_
        refine va_iast hx hb hK.1 hP hD hS 1 0 rfl rfl (kB_in c8ny (by decide)) dX3_addOneToLast_29 (fun H locs hP hD hS => ?_)
        have hP : va_P D vwCl [(ho, .inr (3, [.ref hh, .int sz])), (hh, .inl (cI, 600, .inl (upd f2 x1.toNatClampNeg 0)))] H := hP
        have hD : va_D A [(ho, .inr (3, [.ref hh, .int sz])), (hh, .inl (cI, 600, .inl (upd f2 x1.toNatClampNeg 0)))] := hD
        generalize hf29 : upd f2 x1.toNatClampNeg 0 = f29 at hP hD
        obtain ⟨v30, e30⟩ : ∃ y : Int32, y = x1 + (-1) := ⟨_, rfl⟩
        refine lv_iinc (v := v30) (lv' := [(1, .int v30), (0, .ref ho)]) hx hb dX3_addOneToLast_30 hl (k := 1) rfl (by rw [e30]; rfl) (by decide) rfl (fun ls hl => ?_)
        have b30 : kB v30 (-1) 598 := kB_eq e30 (kB_add c8ny kc_m1 (by decide))
        have t30 : v30.toInt = x1.toInt + (-1) := by rw [e30]; exact kdec (kB_w c8ny (by decide) (by decide))
        refine lv_goto (tgt := 7) hx hb dX3_addOneToLast_33 (by decide) ?_
        exact ih v30 f29 (by have := b30.1; have := b30.2; have := c8ny.1; have := c8ny.2; omega) (kB_w b30 (by decide) (by decide)) (by rw [t30, show (x1.toInt + -1 + 1).toNat = x1.toInt.toNat by omega, ← hf29, ← wCar_255 c8ny.1 (by rw [← e16]; exact c20)]; exact hc) _ _ ls hP hD hS (lv_sub hl [1, 0] rfl)
set_option maxHeartbeats 4000000 in
set_option maxRecDepth 100000 in
theorem c_X3_addOneToLast (l : Launch) (D : va_G) (cI cJ cZ : ClassId) (ho hh : Nat) (sz : Int32) (f : Nat → Int32) (bsz : kB sz 0 600) (hpz : Nat) : Met l yX3_addOneToLast kw_X3_addOneToLast ({ frames := 0, cells := 0, slots := 0, locals := 0 }) (va_Pc [.ref ho] (fun U => U.heap.size = hpz ∧ va_P D vwCl [(ho, .inr (3, [.ref hh, .int sz])), (hh, .inl (cI, 600, .inl f))] U.heap ∧ kK D cI cJ cZ U ∧ va_D (fun _ => True) [(ho, .inr (3, [.ref hh, .int sz])), (hh, .inl (cI, 600, .inl f))])) (va_Qv (fun (u : (Nat → Int32)) => (u = wCar sz.toInt.toNat f)) (fun (u : (Nat → Int32)) (t : State) => va_P D vwCl [(ho, .inr (3, [.ref hh, .int sz])), (hh, .inl (cI, 600, .inl u))] t.heap ∧ va_D (va_A [(ho, .inr (3, [.ref hh, .int sz])), (hh, .inl (cI, 600, .inl f))] hpz) [(ho, .inr (3, [.ref hh, .int sz])), (hh, .inl (cI, 600, .inl u))]) (va_A [(ho, .inr (3, [.ref hh, .int sz])), (hh, .inl (cI, 600, .inl f))] hpz)) 0 0 (va_A [(ho, .inr (3, [.ref hh, .int sz])), (hh, .inl (cI, 600, .inl f))] hpz) := by
  refine Met.ofW (cc := cX3_addOneToLast) (maxL := 2) (ret := none) (by decide) rfl ?_
  intro p e s m args below meth c s₁ B hml hv
  obtain ⟨rfl, hsz, hP, hK, hD0⟩ := hv
  have hx := B.exec
  have hb := B.bytes
  have hr := B.returns
  have hts := fun (w : Cond) (h : w ∈ kW) => atoms_spec (ws := kw_X3_addOneToLast) B.pre w (List.mem_cons_of_mem _ h)
  have hown : s.vm.findClass RX3 = some m.cls := findClass_of_methodNamed B.named
  have hlocks := B.notSynchronized
  subst hsz
  have hD := hD0.self (sz := s.heap.size)
  generalize hAe : va_A [(ho, .inr (3, [.ref hh, .int sz])), (hh, .inl (cI, 600, .inl f))] s.heap.size = A at hD ⊢
  have hA : ∀ q : Nat, s.heap.size ≤ q → A q := fun q h => by rw [← hAe]; exact Or.inr h
  have hS : va_S A s.heap s.heap [] := va_S.rf
  have hP : va_P D vwCl [(ho, .inr (3, [.ref hh, .int sz])), (hh, .inl (cI, 600, .inl f))] s.heap := hP
  have hl := lv_entry ([.ref ho]) (n := 2) (Nat.le_of_ble_eq_true rfl)
  rw [lg_entry_eq]
  generalize (lg_sl ([.ref ho]) ++ List.replicate (2 - (lg_sl ([.ref ho])).length) Slot.unset).toArray = ls at hl ⊢
  have hl : lv_has ls 2 [(0, .ref ho)] := hl
  refine lv_aload_n hx hb dX3_addOneToLast_0 rfl (lv_at hl 0 rfl) ?_
  refine va_get (D := D) (ci := 3) (v := .int sz) (C := RX3) (T := TX3) (N := 2) hx hb hts in_X3 hown hK.1 hP 0 rfl rfl 1 (by decide) (hts _ mk_0) (fun _ h9 => h9) rfl dX3_addOneToLast_1 ?_
  refine lv_iconst (v := 1) hx hb dX3_addOneToLast_4 (by decide) ?_
  refine lv_isub hx hb dX3_addOneToLast_5 ?_
  refine lv_topi (fun v5 e5 => ?_)
  have b5 : kB v5 (-1) 599 := kB_eq e5 (kB_sub bsz kc_1 (by decide))
  have X5 : v5.toInt = sz.toInt - 1 := by rw [e5]; exact kdec1 (kB_w bsz (by decide) (by decide))
  refine lv_istore_n (lv' := [(1, .int v5), (0, .ref ho)]) hx hb dX3_addOneToLast_6 rfl hl (by decide) rfl (fun ls hl => ?_)
  exact lp_X3_addOneToLast_7 D cI cJ cZ ho hh sz f bsz hx hb hr hml hown hts hlocks hK hA ((v5.toInt + 1).toNat + 1) v5 f (Nat.lt_succ_self _) b5 (by rw [X5, show sz.toInt - 1 + 1 = sz.toInt by omega]) _ _ ls hP hD hS (lv_sub hl [1, 0] rfl)
end
section
abbrev kw_X1_start : List Cond := Cond.code yX1_start cX1_start 1 none :: kW
set_option maxHeartbeats 4000000 in
set_option maxRecDepth 100000 in
theorem c_X1_start (l : Launch) (D : va_G) (cI cJ cZ : ClassId) (hwr ho : Nat) (bo : Int32) (wg : Int32) (sl : Int32) (hpz : Nat) : Met l yX1_start kw_X1_start ({ frames := 0, cells := 0, slots := 0, locals := 0 }) (va_Pc [.ref hwr] (fun U => U.heap.size = hpz ∧ va_P D vwCl [(hwr, .inr (1, [.ref ho, .int bo, .int wg, .int sl]))] U.heap ∧ kK D cI cJ cZ U ∧ va_D (fun _ => True) [(hwr, .inr (1, [.ref ho, .int bo, .int wg, .int sl]))])) (va_Qv (fun (u : Unit) => True) (fun (u : Unit) (t : State) => va_P D vwCl [(hwr, .inr (1, [.ref ho, .int 0, .int 255, .int 24]))] t.heap ∧ va_D (va_A [(hwr, .inr (1, [.ref ho, .int bo, .int wg, .int sl]))] hpz) [(hwr, .inr (1, [.ref ho, .int 0, .int 255, .int 24]))]) (va_A [(hwr, .inr (1, [.ref ho, .int bo, .int wg, .int sl]))] hpz)) 0 0 (va_A [(hwr, .inr (1, [.ref ho, .int bo, .int wg, .int sl]))] hpz) := by
  refine Met.ofW (cc := cX1_start) (maxL := 1) (ret := none) (by decide) rfl ?_
  intro p e s m args below meth c s₁ B hml hv
  obtain ⟨rfl, hsz, hP, hK, hD0⟩ := hv
  have hx := B.exec
  have hb := B.bytes
  have hr := B.returns
  have hts := fun (w : Cond) (h : w ∈ kW) => atoms_spec (ws := kw_X1_start) B.pre w (List.mem_cons_of_mem _ h)
  have hown : s.vm.findClass RX1 = some m.cls := findClass_of_methodNamed B.named
  have hlocks := B.notSynchronized
  subst hsz
  have hD := hD0.self (sz := s.heap.size)
  generalize hAe : va_A [(hwr, .inr (1, [.ref ho, .int bo, .int wg, .int sl]))] s.heap.size = A at hD ⊢
  have hA : ∀ q : Nat, s.heap.size ≤ q → A q := fun q h => by rw [← hAe]; exact Or.inr h
  have hS : va_S A s.heap s.heap [] := va_S.rf
  have hP : va_P D vwCl [(hwr, .inr (1, [.ref ho, .int bo, .int wg, .int sl]))] s.heap := hP
  have hl := lv_entry ([.ref hwr]) (n := 1) (Nat.le_of_ble_eq_true rfl)
  rw [lg_entry_eq]
  generalize (lg_sl ([.ref hwr]) ++ List.replicate (1 - (lg_sl ([.ref hwr])).length) Slot.unset).toArray = ls at hl ⊢
  have hl : lv_has ls 1 [(0, .ref hwr)] := hl
  refine lv_aload_n hx hb dX1_start_0 rfl (lv_at hl 0 rfl) ?_
  refine lv_iconst (v := 0) hx hb dX1_start_1 (by decide) ?_
  refine va_put (D := D) (ci := 1) (v := .int 0) (ty := .int) (C := RX1) (T := TX1) (N := 4) hx hb hts in_X1 tyX1 tyX1_ok nmX1 hown hK.1 hP hD hS 0 rfl rfl 1 (by decide) (hts _ mk_2) (fun _ h9 => h9) rfl (by decide +kernel) rfl rfl (Nat.le_of_ble_eq_true rfl) dX1_start_2 (fun H locs hP hD hS => ?_)
  have hP : va_P D vwCl [(hwr, .inr (1, [.ref ho, .int 0, .int wg, .int sl]))] H := hP
  have hD : va_D A [(hwr, .inr (1, [.ref ho, .int 0, .int wg, .int sl]))] := hD
  refine lv_aload_n hx hb dX1_start_5 rfl (lv_at hl 0 rfl) ?_
  refine lv_sipush (v := 255) hx hb dX1_start_6 (by decide) ?_
  refine va_put (D := D) (ci := 1) (v := .int 255) (ty := .int) (C := RX1) (T := TX1) (N := 4) hx hb hts in_X1 tyX1 tyX1_ok nmX1 hown hK.1 hP hD hS 0 rfl rfl 2 (by decide) (hts _ mk_3) (fun _ h9 => h9) rfl (by decide +kernel) rfl rfl (Nat.le_of_ble_eq_true rfl) dX1_start_9 (fun H locs hP hD hS => ?_)
  have hP : va_P D vwCl [(hwr, .inr (1, [.ref ho, .int 0, .int 255, .int sl]))] H := hP
  have hD : va_D A [(hwr, .inr (1, [.ref ho, .int 0, .int 255, .int sl]))] := hD
  refine lv_aload_n hx hb dX1_start_12 rfl (lv_at hl 0 rfl) ?_
  refine lv_bipush (v := 24) hx hb dX1_start_13 (by decide) ?_
  refine va_put (D := D) (ci := 1) (v := .int 24) (ty := .int) (C := RX1) (T := TX1) (N := 4) hx hb hts in_X1 tyX1 tyX1_ok nmX1 hown hK.1 hP hD hS 0 rfl rfl 3 (by decide) (hts _ mk_4) (fun _ h9 => h9) rfl (by decide +kernel) rfl rfl (Nat.le_of_ble_eq_true rfl) dX1_start_15 (fun H locs hP hD hS => ?_)
  have hP : va_P D vwCl [(hwr, .inr (1, [.ref ho, .int 0, .int 255, .int 24]))] H := hP
  have hD : va_D A [(hwr, .inr (1, [.ref ho, .int 0, .int 255, .int 24]))] := hD
  exact W.vret hx hb hr (fun t9 ht9 hW9 => ⟨⟨(), rfl, trivial, by rw [ht9]; exact hP, hD⟩, hS.F ht9⟩) hS.2.2 dX1_start_18
abbrev kw_X1_shiftBottom : List Cond := Cond.code yX1_shiftBottom cX1_shiftBottom 1 none :: kW
set_option maxHeartbeats 4000000 in
set_option maxRecDepth 100000 in
theorem c_X1_shiftBottom (l : Launch) (D : va_G) (cI cJ cZ : ClassId) (hwr ho hh : Nat) (bo : Int32) (wg : Int32) (sl : Int32) (sz : Int32) (f : Nat → Int32) (B : Nat) (bsz : kB sz 0 599) (bsl : kB sl 1 24) (nf : kNF sl.toInt sz.toInt) (hB : bo = nI B) (hB2 : B < 4294967296) (hpz : Nat) : Met l yX1_shiftBottom kw_X1_shiftBottom ({ frames := 1, cells := 0, slots := 0, locals := 21 }) (va_Pc [.ref hwr] (fun U => U.heap.size = hpz ∧ va_P D vwCl [(hwr, .inr (1, [.ref ho, .int bo, .int wg, .int sl])), (ho, .inr (3, [.ref hh, .int sz])), (hh, .inl (cI, 600, .inl f))] U.heap ∧ kK D cI cJ cZ U ∧ va_D (fun _ => True) [(hwr, .inr (1, [.ref ho, .int bo, .int wg, .int sl])), (ho, .inr (3, [.ref hh, .int sz])), (hh, .inl (cI, 600, .inl f))])) (va_Qv (fun (u : Int32 × Int32 × Int32 × (Nat → Int32)) => (kB u.2.2.1 0 600) ∧ (kB u.2.1 1 24) ∧ (kNF u.2.1.toInt u.2.2.1.toInt) ∧ (8 * u.2.2.1.toInt - u.2.1.toInt = 8 * sz.toInt - sl.toInt + 1) ∧ (u.1 = nI (wSh (sl.toInt, sz.toInt, B, f)).2.2.1) ∧ (u.2.1.toInt = (wSh (sl.toInt, sz.toInt, B, f)).1) ∧ (u.2.2.1.toInt = (wSh (sl.toInt, sz.toInt, B, f)).2.1) ∧ (u.2.2.2 = (wSh (sl.toInt, sz.toInt, B, f)).2.2.2)) (fun (u : Int32 × Int32 × Int32 × (Nat → Int32)) (t : State) => va_P D vwCl [(hwr, .inr (1, [.ref ho, .int u.1, .int wg, .int u.2.1])), (ho, .inr (3, [.ref hh, .int u.2.2.1])), (hh, .inl (cI, 600, .inl u.2.2.2))] t.heap ∧ va_D (va_A [(hwr, .inr (1, [.ref ho, .int bo, .int wg, .int sl])), (ho, .inr (3, [.ref hh, .int sz])), (hh, .inl (cI, 600, .inl f))] hpz) [(hwr, .inr (1, [.ref ho, .int u.1, .int wg, .int u.2.1])), (ho, .inr (3, [.ref hh, .int u.2.2.1])), (hh, .inl (cI, 600, .inl u.2.2.2))]) (va_A [(hwr, .inr (1, [.ref ho, .int bo, .int wg, .int sl])), (ho, .inr (3, [.ref hh, .int sz])), (hh, .inl (cI, 600, .inl f))] hpz)) 0 0 (va_A [(hwr, .inr (1, [.ref ho, .int bo, .int wg, .int sl])), (ho, .inr (3, [.ref hh, .int sz])), (hh, .inl (cI, 600, .inl f))] hpz) := by
  refine Met.ofW (cc := cX1_shiftBottom) (maxL := 1) (ret := none) (by decide) rfl ?_
  intro p e s m args below meth c s₁ B hml hv
  obtain ⟨rfl, hsz, hP, hK, hD0⟩ := hv
  have hx := B.exec
  have hb := B.bytes
  have hr := B.returns
  have hts := fun (w : Cond) (h : w ∈ kW) => atoms_spec (ws := kw_X1_shiftBottom) B.pre w (List.mem_cons_of_mem _ h)
  have hown : s.vm.findClass RX1 = some m.cls := findClass_of_methodNamed B.named
  have hlocks := B.notSynchronized
  subst hsz
  have hD := hD0.self (sz := s.heap.size)
  generalize hAe : va_A [(hwr, .inr (1, [.ref ho, .int bo, .int wg, .int sl])), (ho, .inr (3, [.ref hh, .int sz])), (hh, .inl (cI, 600, .inl f))] s.heap.size = A at hD ⊢
  have hA : ∀ q : Nat, s.heap.size ≤ q → A q := fun q h => by rw [← hAe]; exact Or.inr h
  have hS : va_S A s.heap s.heap [] := va_S.rf
  have hP : va_P D vwCl [(hwr, .inr (1, [.ref ho, .int bo, .int wg, .int sl])), (ho, .inr (3, [.ref hh, .int sz])), (hh, .inl (cI, 600, .inl f))] s.heap := hP
  have hl := lv_entry ([.ref hwr]) (n := 1) (Nat.le_of_ble_eq_true rfl)
  rw [lg_entry_eq]
  generalize (lg_sl ([.ref hwr]) ++ List.replicate (1 - (lg_sl ([.ref hwr])).length) Slot.unset).toArray = ls at hl ⊢
  have hl : lv_has ls 1 [(0, .ref hwr)] := hl
  refine lv_aload_n hx hb dX1_shiftBottom_0 rfl (lv_at hl 0 rfl) ?_
  refine va_get (D := D) (ci := 1) (v := .int bo) (C := RX1) (T := TX1) (N := 4) hx hb hts in_X1 hown hK.1 hP 0 rfl rfl 1 (by decide) (hts _ mk_2) (fun _ h9 => h9) rfl dX1_shiftBottom_1 ?_
  refine lv_if_ge (tgt := 14) hx hb dX1_shiftBottom_4 (by decide) (fun c4 => ?_) (fun c4 => ?_)
  · have c4b := kB_all bo
    have c4y : kB bo 0 2147483647 := kB_le_r kc_0 c4b c4 (by decide)
    have CF : f = wF sz.toInt.toNat B f := wF_n (fun h9 => by have := (nI_neg hB2).mpr h9; rw [← hB] at this; have h8 := Int32.le_iff_toInt_le.mp c4; rw [show (0 : Int32).toInt = 0 from by decide] at h8; omega)
    refine lv_aload_n hx hb dX1_shiftBottom_14 rfl (lv_at hl 0 rfl) ?_
    refine lv_dup hx hb dX1_shiftBottom_15 rfl ?_
    refine va_get (D := D) (ci := 1) (v := .int bo) (C := RX1) (T := TX1) (N := 4) hx hb hts in_X1 hown hK.1 hP 0 rfl rfl 1 (by decide) (hts _ mk_2) (fun _ h9 => h9) rfl dX1_shiftBottom_16 ?_
    refine lv_iconst (v := 1) hx hb dX1_shiftBottom_19 (by decide) ?_
    refine lv_ishl hx hb dX1_shiftBottom_20 ?_
    refine lv_topi (fun v20 e20 => ?_)
    have V20 : v20 = nI (2 * B % 4294967296) := by rw [e20, hB, nI_shlm hB2 (k := 1) (by decide)]; exact congrArg nI (by omega)
    refine va_put (D := D) (ci := 1) (v := .int v20) (ty := .int) (C := RX1) (T := TX1) (N := 4) hx hb hts in_X1 tyX1 tyX1_ok nmX1 hown hK.1 hP hD hS 0 rfl rfl 1 (by decide) (hts _ mk_2) (fun _ h9 => h9) rfl (by decide +kernel) rfl rfl (Nat.le_of_ble_eq_true rfl) dX1_shiftBottom_21 (fun H locs hP hD hS => ?_)
    have hP : va_P D vwCl [(hwr, .inr (1, [.ref ho, .int v20, .int wg, .int sl])), (ho, .inr (3, [.ref hh, .int sz])), (hh, .inl (cI, 600, .inl f))] H := hP
    have hD : va_D A [(hwr, .inr (1, [.ref ho, .int v20, .int wg, .int sl])), (ho, .inr (3, [.ref hh, .int sz])), (hh, .inl (cI, 600, .inl f))] := hD
    refine lv_aload_n hx hb dX1_shiftBottom_24 rfl (lv_at hl 0 rfl) ?_
    refine lv_dup hx hb dX1_shiftBottom_25 rfl ?_
    refine va_get (D := D) (ci := 1) (v := .int sl) (C := RX1) (T := TX1) (N := 4) hx hb hts in_X1 hown hK.1 hP 0 rfl rfl 3 (by decide) (hts _ mk_4) (fun _ h9 => h9) rfl dX1_shiftBottom_26 ?_
    refine lv_iconst (v := 1) hx hb dX1_shiftBottom_29 (by decide) ?_
    refine lv_isub hx hb dX1_shiftBottom_30 ?_
    refine lv_topi (fun v30 e30 => ?_)
    have b30 : kB v30 0 23 := kB_eq e30 (kB_sub bsl kc_1 (by decide))
    have K30 : v30.toInt = sl.toInt - 1 := by rw [e30]; exact kdec1 (kB_w bsl (by decide) (by decide))
    refine va_put (D := D) (ci := 1) (v := .int v30) (ty := .int) (C := RX1) (T := TX1) (N := 4) hx hb hts in_X1 tyX1 tyX1_ok nmX1 hown hK.1 hP hD hS 0 rfl rfl 3 (by decide) (hts _ mk_4) (fun _ h9 => h9) rfl (by decide +kernel) rfl rfl (Nat.le_of_ble_eq_true rfl) dX1_shiftBottom_31 (fun H locs hP hD hS => ?_)
    have hP : va_P D vwCl [(hwr, .inr (1, [.ref ho, .int v20, .int wg, .int v30])), (ho, .inr (3, [.ref hh, .int sz])), (hh, .inl (cI, 600, .inl f))] H := hP
    have hD : va_D A [(hwr, .inr (1, [.ref ho, .int v20, .int wg, .int v30])), (ho, .inr (3, [.ref hh, .int sz])), (hh, .inl (cI, 600, .inl f))] := hD
    refine lv_aload_n hx hb dX1_shiftBottom_34 rfl (lv_at hl 0 rfl) ?_
    refine va_get (D := D) (ci := 1) (v := .int v30) (C := RX1) (T := TX1) (N := 4) hx hb hts in_X1 hown hK.1 hP 0 rfl rfl 3 (by decide) (hts _ mk_4) (fun _ h9 => h9) rfl dX1_shiftBottom_35 ?_
    refine lv_if_ne (tgt := 72) hx hb dX1_shiftBottom_38 (by decide) (fun c38 => ?_) (fun c38 => ?_)
    · have c38x : kB v30 1 23 := kB_nlo b30 c38 kc_0 (by decide)
      have Z38 := kn0 c38
      have HSn : ¬ sl.toInt = 1 := by have := kn0 c38; omega
      have pf_b : kB sz 0 600 := (kB_w bsz (by decide) (by decide))
      have pf_c : kB v30 1 24 := (kB_w c38x (by decide) (by decide))
      have pf_n : kNF v30.toInt sz.toInt := (by omega)
      have pf_p : 8 * sz.toInt - v30.toInt = 8 * sz.toInt - sl.toInt + 1 := (by omega)
      have pf_e1 : v20 = nI (wSh (sl.toInt, sz.toInt, B, f)).2.2.1 := (by rw [wSh_n HSn]; exact V20)
      have pf_e2 : v30.toInt = (wSh (sl.toInt, sz.toInt, B, f)).1 := (by rw [wSh_n HSn]; exact K30)
      have pf_e3 : sz.toInt = (wSh (sl.toInt, sz.toInt, B, f)).2.1 := (by rw [wSh_n HSn])
      have pf_e4 : f = (wSh (sl.toInt, sz.toInt, B, f)).2.2.2 := (by rw [wSh_n HSn]; exact CF)
      exact W.vret hx hb hr (fun t9 ht9 hW9 => ⟨⟨(v20, v30, sz, f), rfl, ⟨pf_b, pf_c, pf_n, pf_p, pf_e1, pf_e2, pf_e3, pf_e4⟩, by rw [ht9]; exact hP, hD⟩, hS.F ht9⟩) hS.2.2 dX1_shiftBottom_72
    · have c38x : kB v30 0 0 := kB_eq c38 kc_0
      refine lv_aload_n hx hb dX1_shiftBottom_41 rfl (lv_at hl 0 rfl) ?_
      refine va_get (D := D) (ci := 1) (v := .ref ho) (C := RX1) (T := TX1) (N := 4) hx hb hts in_X1 hown hK.1 hP 0 rfl rfl 0 (by decide) (hts _ mk_5) (fun _ h9 => h9) rfl dX1_shiftBottom_42 ?_
      refine lv_aload_n hx hb dX1_shiftBottom_45 rfl (lv_at hl 0 rfl) ?_
      refine va_get (D := D) (ci := 1) (v := .int v20) (C := RX1) (T := TX1) (N := 4) hx hb hts in_X1 hown hK.1 hP 0 rfl rfl 1 (by decide) (hts _ mk_2) (fun _ h9 => h9) rfl dX1_shiftBottom_46 ?_
      refine lv_bipush (v := 24) hx hb dX1_shiftBottom_49 (by decide) ?_
      refine lv_iushr hx hb dX1_shiftBottom_51 rfl ?_
      refine lv_topi (fun v51 e51 => ?_)
      have V51 : v51 = nI (2 * B % 4294967296 / 16777216) := by rw [e51, V20, nI_ush (by omega) (k := 24) (by decide)]
      have HS1 : sl.toInt = 1 := by have := k0 c38; omega
      have hPc := hP.sub (ws' := [(ho, .inr (3, [.ref hh, .int sz])), (hh, .inl (cI, 600, .inl f))]) [1, 2] rfl
      have hDc := hD.sub (ws' := [(ho, .inr (3, [.ref hh, .int sz])), (hh, .inl (cI, 600, .inl f))]) [1, 2] (by decide) rfl
      have hFc := va_free (wc := [(ho, .inr (3, [.ref hh, .int sz])), (hh, .inl (cI, 600, .inl f))]) hD hS hA [1, 2] rfl
      refine va_callv (va_runV (As := [.int v51]) (rest := []) ⟨hx, hb, hml, hown, hts⟩ (c_X3_append l D cI cJ cZ ho hh sz f v51 (kB_w bsz (by decide) (by decide)) (H).size) (cwV 1 hts (kg_V mk_6 mk_7 mk_8 mk_9 mk_10) rfl rfl rfl (by decide +kernel) ⟨Nat.le_of_ble_eq_true rfl, Nat.le_of_ble_eq_true rfl⟩) ⟨fun a U g mk q => by obtain ⟨q0, q1, qP, qK, qD⟩ := q; exact ⟨q0, q1, qP, kK.call qK, qD⟩, va_recv hK.1 hPc (ci := 3) (q0 := 0) rfl rfl, fun U hU hW => ⟨rfl, by rw [hU], by rw [hU]; exact hPc, kK.warm hW hK, hDc.weaken (fun _ _ _ _ => trivial)⟩⟩ rfl rfl hl.1 rfl (lv_room (Nat.le_of_ble_eq_true rfl)) dX1_shiftBottom_52 ⟨Nat.zero_le _, Nat.zero_le _⟩) hS (fun q _ h => hFc q h) hFc (fun u t9 H1 locs ht9 hvm9 hw9 hB9 hz9 hk9 hS => ?_)
      obtain ⟨sz2_52, f2_52⟩ := u
      obtain ⟨hP1, hD1⟩ := hB9
      rw [ht9] at hP1
      have hP1 : va_P D vwCl [(ho, .inr (3, [.ref hh, .int sz2_52])), (hh, .inl (cI, 600, .inl f2_52))] H1 := hP1
      obtain ⟨hP, hD⟩ := va_join (wr := [(hwr, .inr (1, [.ref ho, .int v20, .int wg, .int v30]))]) (w1 := [(ho, .inr (3, [.ref hh, .int sz2_52])), (hh, .inl (cI, 600, .inl f2_52))]) hP hD [1, 2] [0] rfl rfl (by decide) (by decide) hk9 hFc hP1 hD1
      have hP := hP.sub (ws' := [(hwr, .inr (1, [.ref ho, .int v20, .int wg, .int v30])), (ho, .inr (3, [.ref hh, .int sz2_52])), (hh, .inl (cI, 600, .inl f2_52))]) [0, 1, 2] rfl
      have hD := hD.sub (ws' := [(hwr, .inr (1, [.ref ho, .int v20, .int wg, .int v30])), (ho, .inr (3, [.ref hh, .int sz2_52])), (hh, .inl (cI, 600, .inl f2_52))]) [0, 1, 2] (by decide) rfl
      generalize H1 = H at hP hS ⊢
      obtain ⟨q52_0, q52_1, q52_2⟩ := hw9
      have q52_0 : kB sz2_52 0 600 := q52_0
      have q52_1 : sz2_52.toInt = if sz.toInt < 600 then sz.toInt + 1 else sz.toInt := q52_1
      have q52_2 : sz.toInt < 600 → f2_52 = upd f sz.toNatClampNeg (v51 &&& 255) := q52_2
      rw [if_pos (show sz.toInt < 600 by omega)] at q52_1
      have Z38 := k0 c38
      have Z8 : (8 : Int32).toInt = 8 := by decide
      have F52 := q52_2 (by omega)
      rw [V51, nI_msk (by omega) (k := 8) (by decide), Nat.mod_eq_of_lt (by omega), CF] at F52
      refine lv_aload_n hx hb dX1_shiftBottom_55 rfl (lv_at hl 0 rfl) ?_
      refine lv_dup hx hb dX1_shiftBottom_56 rfl ?_
      refine va_get (D := D) (ci := 1) (v := .int v20) (C := RX1) (T := TX1) (N := 4) hx hb hts in_X1 hown hK.1 hP 0 rfl rfl 1 (by decide) (hts _ mk_2) (fun _ h9 => h9) rfl dX1_shiftBottom_57 ?_
      refine lv_ldc (v := 16777215) hx hb hown (hts _ mk_11) dX1_shiftBottom_60 ?_
      refine lv_iand hx hb dX1_shiftBottom_62 ?_
      refine lv_topi (fun v62 e62 => ?_)
      have b62 : kB v62 0 16777215 := kB_eq e62 (kB_and 24 (by decide) (by decide))
      have V62 : v62 = nI (2 * B % 4294967296 % 16777216) := by rw [e62, V20, nI_msk (by omega) (k := 24) (by decide)]
      refine va_put (D := D) (ci := 1) (v := .int v62) (ty := .int) (C := RX1) (T := TX1) (N := 4) hx hb hts in_X1 tyX1 tyX1_ok nmX1 hown hK.1 hP hD hS 0 rfl rfl 1 (by decide) (hts _ mk_2) (fun _ h9 => h9) rfl (by decide +kernel) rfl rfl (Nat.le_of_ble_eq_true rfl) dX1_shiftBottom_63 (fun H locs hP hD hS => ?_)
      have hP : va_P D vwCl [(hwr, .inr (1, [.ref ho, .int v62, .int wg, .int v30])), (ho, .inr (3, [.ref hh, .int sz2_52])), (hh, .inl (cI, 600, .inl f2_52))] H := hP
      have hD : va_D A [(hwr, .inr (1, [.ref ho, .int v62, .int wg, .int v30])), (ho, .inr (3, [.ref hh, .int sz2_52])), (hh, .inl (cI, 600, .inl f2_52))] := hD
      refine lv_aload_n hx hb dX1_shiftBottom_66 rfl (lv_at hl 0 rfl) ?_
      refine lv_bipush (v := 8) hx hb dX1_shiftBottom_67 (by decide) ?_
      refine va_put (D := D) (ci := 1) (v := .int 8) (ty := .int) (C := RX1) (T := TX1) (N := 4) hx hb hts in_X1 tyX1 tyX1_ok nmX1 hown hK.1 hP hD hS 0 rfl rfl 3 (by decide) (hts _ mk_4) (fun _ h9 => h9) rfl (by decide +kernel) rfl rfl (Nat.le_of_ble_eq_true rfl) dX1_shiftBottom_69 (fun H locs hP hD hS => ?_)
      have hP : va_P D vwCl [(hwr, .inr (1, [.ref ho, .int v62, .int wg, .int 8])), (ho, .inr (3, [.ref hh, .int sz2_52])), (hh, .inl (cI, 600, .inl f2_52))] H := hP
      have hD : va_D A [(hwr, .inr (1, [.ref ho, .int v62, .int wg, .int 8])), (ho, .inr (3, [.ref hh, .int sz2_52])), (hh, .inl (cI, 600, .inl f2_52))] := hD
      have pf_c : kB (8 : Int32) 1 24 := (kB_w kc_8 (by decide) (by decide))
      have pf_n : kNF (8 : Int32).toInt sz2_52.toInt := (by omega)
      have pf_p : 8 * sz2_52.toInt - (8 : Int32).toInt = 8 * sz.toInt - sl.toInt + 1 := (by omega)
      have pf_e1 : v62 = nI (wSh (sl.toInt, sz.toInt, B, f)).2.2.1 := (by rw [wSh_1 HS1]; exact V62)
      have pf_e2 : (8 : Int32).toInt = (wSh (sl.toInt, sz.toInt, B, f)).1 := (by rw [wSh_1 HS1]; exact Z8)
      have pf_e3 : sz2_52.toInt = (wSh (sl.toInt, sz.toInt, B, f)).2.1 := (by rw [wSh_1 HS1]; exact q52_1)
      have pf_e4 : f2_52 = (wSh (sl.toInt, sz.toInt, B, f)).2.2.2 := (by rw [wSh_1 HS1]; exact F52)
      exact W.vret hx hb hr (fun t9 ht9 hW9 => ⟨⟨(v62, 8, sz2_52, f2_52), rfl, ⟨q52_0, pf_c, pf_n, pf_p, pf_e1, pf_e2, pf_e3, pf_e4⟩, by rw [ht9]; exact hP, hD⟩, hS.F ht9⟩) hS.2.2 dX1_shiftBottom_72
  · have c4n : bo < 0 := kN_le c4
    have c4na := kB_all bo
    have c4nx : kB bo (-2147483648) (-1) := kB_lt_l c4na kc_0 c4n (by decide)
    refine lv_aload_n hx hb dX1_shiftBottom_7 rfl (lv_at hl 0 rfl) ?_
    refine va_get (D := D) (ci := 1) (v := .ref ho) (C := RX1) (T := TX1) (N := 4) hx hb hts in_X1 hown hK.1 hP 0 rfl rfl 0 (by decide) (hts _ mk_5) (fun _ h9 => h9) rfl dX1_shiftBottom_8 ?_
    have hPc := hP.sub (ws' := [(ho, .inr (3, [.ref hh, .int sz])), (hh, .inl (cI, 600, .inl f))]) [1, 2] rfl
    have hDc := hD.sub (ws' := [(ho, .inr (3, [.ref hh, .int sz])), (hh, .inl (cI, 600, .inl f))]) [1, 2] (by decide) rfl
    have hFc := va_free (wc := [(ho, .inr (3, [.ref hh, .int sz])), (hh, .inl (cI, 600, .inl f))]) hD hS hA [1, 2] rfl
    refine va_callv (va_runV (As := []) (rest := []) ⟨hx, hb, hml, hown, hts⟩ (c_X3_addOneToLast l D cI cJ cZ ho hh sz f (kB_w bsz (by decide) (by decide)) (s.heap).size) (cwV 0 hts (kg_V mk_12 mk_13 mk_14 mk_9 mk_15) rfl rfl rfl (by decide +kernel) ⟨Nat.le_of_ble_eq_true rfl, Nat.le_of_ble_eq_true rfl⟩) ⟨fun a U g mk q => by obtain ⟨q0, q1, qP, qK, qD⟩ := q; exact ⟨q0, q1, qP, kK.call qK, qD⟩, va_recv hK.1 hPc (ci := 3) (q0 := 0) rfl rfl, fun U hU hW => ⟨rfl, by rw [hU], by rw [hU]; exact hPc, kK.warm hW hK, hDc.weaken (fun _ _ _ _ => trivial)⟩⟩ rfl rfl hl.1 rfl (lv_room (Nat.le_of_ble_eq_true rfl)) dX1_shiftBottom_11 ⟨Nat.zero_le _, Nat.zero_le _⟩) hS (fun q _ h => hFc q h) hFc (fun u t9 H1 locs ht9 hvm9 hw9 hB9 hz9 hk9 hS => ?_)
    obtain ⟨f2_11, rfl⟩ : ∃ z, z = u := ⟨_, rfl⟩
    obtain ⟨hP1, hD1⟩ := hB9
    rw [ht9] at hP1
    have hP1 : va_P D vwCl [(ho, .inr (3, [.ref hh, .int sz])), (hh, .inl (cI, 600, .inl f2_11))] H1 := hP1
    obtain ⟨hP, hD⟩ := va_join (wr := [(hwr, .inr (1, [.ref ho, .int bo, .int wg, .int sl]))]) (w1 := [(ho, .inr (3, [.ref hh, .int sz])), (hh, .inl (cI, 600, .inl f2_11))]) hP hD [1, 2] [0] rfl rfl (by decide) (by decide) hk9 hFc hP1 hD1
    have hP := hP.sub (ws' := [(hwr, .inr (1, [.ref ho, .int bo, .int wg, .int sl])), (ho, .inr (3, [.ref hh, .int sz])), (hh, .inl (cI, 600, .inl f2_11))]) [0, 1, 2] rfl
    have hD := hD.sub (ws' := [(hwr, .inr (1, [.ref ho, .int bo, .int wg, .int sl])), (ho, .inr (3, [.ref hh, .int sz])), (hh, .inl (cI, 600, .inl f2_11))]) [0, 1, 2] (by decide) rfl
    generalize H1 = H at hP hS ⊢
    have q11_0 : f2_11 = wCar sz.toInt.toNat f := hw9
    have CF : f2_11 = wF sz.toInt.toNat B f := by rw [q11_0]; exact wF_y ((nI_neg hB2).mp (by rw [← hB]; have := Int32.lt_iff_toInt_lt.mp c4n; rw [show (0 : Int32).toInt = 0 from by decide] at this; exact this))
    refine lv_aload_n hx hb dX1_shiftBottom_14 rfl (lv_at hl 0 rfl) ?_
    refine lv_dup hx hb dX1_shiftBottom_15 rfl ?_
    refine va_get (D := D) (ci := 1) (v := .int bo) (C := RX1) (T := TX1) (N := 4) hx hb hts in_X1 hown hK.1 hP 0 rfl rfl 1 (by decide) (hts _ mk_2) (fun _ h9 => h9) rfl dX1_shiftBottom_16 ?_
    refine lv_iconst (v := 1) hx hb dX1_shiftBottom_19 (by decide) ?_
    refine lv_ishl hx hb dX1_shiftBottom_20 ?_
    refine lv_topi (fun v20 e20 => ?_)
    have V20 : v20 = nI (2 * B % 4294967296) := by rw [e20, hB, nI_shlm hB2 (k := 1) (by decide)]; exact congrArg nI (by omega)
    refine va_put (D := D) (ci := 1) (v := .int v20) (ty := .int) (C := RX1) (T := TX1) (N := 4) hx hb hts in_X1 tyX1 tyX1_ok nmX1 hown hK.1 hP hD hS 0 rfl rfl 1 (by decide) (hts _ mk_2) (fun _ h9 => h9) rfl (by decide +kernel) rfl rfl (Nat.le_of_ble_eq_true rfl) dX1_shiftBottom_21 (fun H locs hP hD hS => ?_)
    have hP : va_P D vwCl [(hwr, .inr (1, [.ref ho, .int v20, .int wg, .int sl])), (ho, .inr (3, [.ref hh, .int sz])), (hh, .inl (cI, 600, .inl f2_11))] H := hP
    have hD : va_D A [(hwr, .inr (1, [.ref ho, .int v20, .int wg, .int sl])), (ho, .inr (3, [.ref hh, .int sz])), (hh, .inl (cI, 600, .inl f2_11))] := hD
    refine lv_aload_n hx hb dX1_shiftBottom_24 rfl (lv_at hl 0 rfl) ?_
    refine lv_dup hx hb dX1_shiftBottom_25 rfl ?_
    refine va_get (D := D) (ci := 1) (v := .int sl) (C := RX1) (T := TX1) (N := 4) hx hb hts in_X1 hown hK.1 hP 0 rfl rfl 3 (by decide) (hts _ mk_4) (fun _ h9 => h9) rfl dX1_shiftBottom_26 ?_
    refine lv_iconst (v := 1) hx hb dX1_shiftBottom_29 (by decide) ?_
    refine lv_isub hx hb dX1_shiftBottom_30 ?_
    refine lv_topi (fun v30 e30 => ?_)
    have b30 : kB v30 0 23 := kB_eq e30 (kB_sub bsl kc_1 (by decide))
    have K30 : v30.toInt = sl.toInt - 1 := by rw [e30]; exact kdec1 (kB_w bsl (by decide) (by decide))
    refine va_put (D := D) (ci := 1) (v := .int v30) (ty := .int) (C := RX1) (T := TX1) (N := 4) hx hb hts in_X1 tyX1 tyX1_ok nmX1 hown hK.1 hP hD hS 0 rfl rfl 3 (by decide) (hts _ mk_4) (fun _ h9 => h9) rfl (by decide +kernel) rfl rfl (Nat.le_of_ble_eq_true rfl) dX1_shiftBottom_31 (fun H locs hP hD hS => ?_)
    have hP : va_P D vwCl [(hwr, .inr (1, [.ref ho, .int v20, .int wg, .int v30])), (ho, .inr (3, [.ref hh, .int sz])), (hh, .inl (cI, 600, .inl f2_11))] H := hP
    have hD : va_D A [(hwr, .inr (1, [.ref ho, .int v20, .int wg, .int v30])), (ho, .inr (3, [.ref hh, .int sz])), (hh, .inl (cI, 600, .inl f2_11))] := hD
    refine lv_aload_n hx hb dX1_shiftBottom_34 rfl (lv_at hl 0 rfl) ?_
    refine va_get (D := D) (ci := 1) (v := .int v30) (C := RX1) (T := TX1) (N := 4) hx hb hts in_X1 hown hK.1 hP 0 rfl rfl 3 (by decide) (hts _ mk_4) (fun _ h9 => h9) rfl dX1_shiftBottom_35 ?_
    refine lv_if_ne (tgt := 72) hx hb dX1_shiftBottom_38 (by decide) (fun c38 => ?_) (fun c38 => ?_)
    · have c38x : kB v30 1 23 := kB_nlo b30 c38 kc_0 (by decide)
      have Z38 := kn0 c38
      have HSn : ¬ sl.toInt = 1 := by have := kn0 c38; omega
      have pf_b : kB sz 0 600 := (kB_w bsz (by decide) (by decide))
      have pf_c : kB v30 1 24 := (kB_w c38x (by decide) (by decide))
      have pf_n : kNF v30.toInt sz.toInt := (by omega)
      have pf_p : 8 * sz.toInt - v30.toInt = 8 * sz.toInt - sl.toInt + 1 := (by omega)
      have pf_e1 : v20 = nI (wSh (sl.toInt, sz.toInt, B, f)).2.2.1 := (by rw [wSh_n HSn]; exact V20)
      have pf_e2 : v30.toInt = (wSh (sl.toInt, sz.toInt, B, f)).1 := (by rw [wSh_n HSn]; exact K30)
      have pf_e3 : sz.toInt = (wSh (sl.toInt, sz.toInt, B, f)).2.1 := (by rw [wSh_n HSn])
      have pf_e4 : f2_11 = (wSh (sl.toInt, sz.toInt, B, f)).2.2.2 := (by rw [wSh_n HSn]; exact CF)
      exact W.vret hx hb hr (fun t9 ht9 hW9 => ⟨⟨(v20, v30, sz, f2_11), rfl, ⟨pf_b, pf_c, pf_n, pf_p, pf_e1, pf_e2, pf_e3, pf_e4⟩, by rw [ht9]; exact hP, hD⟩, hS.F ht9⟩) hS.2.2 dX1_shiftBottom_72
    · have c38x : kB v30 0 0 := kB_eq c38 kc_0
      refine lv_aload_n hx hb dX1_shiftBottom_41 rfl (lv_at hl 0 rfl) ?_
      refine va_get (D := D) (ci := 1) (v := .ref ho) (C := RX1) (T := TX1) (N := 4) hx hb hts in_X1 hown hK.1 hP 0 rfl rfl 0 (by decide) (hts _ mk_5) (fun _ h9 => h9) rfl dX1_shiftBottom_42 ?_
      refine lv_aload_n hx hb dX1_shiftBottom_45 rfl (lv_at hl 0 rfl) ?_
      refine va_get (D := D) (ci := 1) (v := .int v20) (C := RX1) (T := TX1) (N := 4) hx hb hts in_X1 hown hK.1 hP 0 rfl rfl 1 (by decide) (hts _ mk_2) (fun _ h9 => h9) rfl dX1_shiftBottom_46 ?_
      refine lv_bipush (v := 24) hx hb dX1_shiftBottom_49 (by decide) ?_
      refine lv_iushr hx hb dX1_shiftBottom_51 rfl ?_
      refine lv_topi (fun v51 e51 => ?_)
      have V51 : v51 = nI (2 * B % 4294967296 / 16777216) := by rw [e51, V20, nI_ush (by omega) (k := 24) (by decide)]
      have HS1 : sl.toInt = 1 := by have := k0 c38; omega
      have hPc := hP.sub (ws' := [(ho, .inr (3, [.ref hh, .int sz])), (hh, .inl (cI, 600, .inl f2_11))]) [1, 2] rfl
      have hDc := hD.sub (ws' := [(ho, .inr (3, [.ref hh, .int sz])), (hh, .inl (cI, 600, .inl f2_11))]) [1, 2] (by decide) rfl
      have hFc := va_free (wc := [(ho, .inr (3, [.ref hh, .int sz])), (hh, .inl (cI, 600, .inl f2_11))]) hD hS hA [1, 2] rfl
      refine va_callv (va_runV (As := [.int v51]) (rest := []) ⟨hx, hb, hml, hown, hts⟩ (c_X3_append l D cI cJ cZ ho hh sz f2_11 v51 (kB_w bsz (by decide) (by decide)) (H).size) (cwV 1 hts (kg_V mk_6 mk_7 mk_8 mk_9 mk_10) rfl rfl rfl (by decide +kernel) ⟨Nat.le_of_ble_eq_true rfl, Nat.le_of_ble_eq_true rfl⟩) ⟨fun a U g mk q => by obtain ⟨q0, q1, qP, qK, qD⟩ := q; exact ⟨q0, q1, qP, kK.call qK, qD⟩, va_recv hK.1 hPc (ci := 3) (q0 := 0) rfl rfl, fun U hU hW => ⟨rfl, by rw [hU], by rw [hU]; exact hPc, kK.warm hW hK, hDc.weaken (fun _ _ _ _ => trivial)⟩⟩ rfl rfl hl.1 rfl (lv_room (Nat.le_of_ble_eq_true rfl)) dX1_shiftBottom_52 ⟨Nat.zero_le _, Nat.zero_le _⟩) hS (fun q _ h => hFc q h) hFc (fun u t9 H1 locs ht9 hvm9 hw9 hB9 hz9 hk9 hS => ?_)
      obtain ⟨sz2_52, f2_52⟩ := u
      obtain ⟨hP1, hD1⟩ := hB9
      rw [ht9] at hP1
      have hP1 : va_P D vwCl [(ho, .inr (3, [.ref hh, .int sz2_52])), (hh, .inl (cI, 600, .inl f2_52))] H1 := hP1
      obtain ⟨hP, hD⟩ := va_join (wr := [(hwr, .inr (1, [.ref ho, .int v20, .int wg, .int v30]))]) (w1 := [(ho, .inr (3, [.ref hh, .int sz2_52])), (hh, .inl (cI, 600, .inl f2_52))]) hP hD [1, 2] [0] rfl rfl (by decide) (by decide) hk9 hFc hP1 hD1
      have hP := hP.sub (ws' := [(hwr, .inr (1, [.ref ho, .int v20, .int wg, .int v30])), (ho, .inr (3, [.ref hh, .int sz2_52])), (hh, .inl (cI, 600, .inl f2_52))]) [0, 1, 2] rfl
      have hD := hD.sub (ws' := [(hwr, .inr (1, [.ref ho, .int v20, .int wg, .int v30])), (ho, .inr (3, [.ref hh, .int sz2_52])), (hh, .inl (cI, 600, .inl f2_52))]) [0, 1, 2] (by decide) rfl
      generalize H1 = H at hP hS ⊢
      obtain ⟨q52_0, q52_1, q52_2⟩ := hw9
      have q52_0 : kB sz2_52 0 600 := q52_0
      have q52_1 : sz2_52.toInt = if sz.toInt < 600 then sz.toInt + 1 else sz.toInt := q52_1
      have q52_2 : sz.toInt < 600 → f2_52 = upd f2_11 sz.toNatClampNeg (v51 &&& 255) := q52_2
      rw [if_pos (show sz.toInt < 600 by omega)] at q52_1
      have Z38 := k0 c38
      have Z8 : (8 : Int32).toInt = 8 := by decide
      have F52 := q52_2 (by omega)
      rw [V51, nI_msk (by omega) (k := 8) (by decide), Nat.mod_eq_of_lt (by omega), CF] at F52
      refine lv_aload_n hx hb dX1_shiftBottom_55 rfl (lv_at hl 0 rfl) ?_
      refine lv_dup hx hb dX1_shiftBottom_56 rfl ?_
      refine va_get (D := D) (ci := 1) (v := .int v20) (C := RX1) (T := TX1) (N := 4) hx hb hts in_X1 hown hK.1 hP 0 rfl rfl 1 (by decide) (hts _ mk_2) (fun _ h9 => h9) rfl dX1_shiftBottom_57 ?_
      refine lv_ldc (v := 16777215) hx hb hown (hts _ mk_11) dX1_shiftBottom_60 ?_
      refine lv_iand hx hb dX1_shiftBottom_62 ?_
      refine lv_topi (fun v62 e62 => ?_)
      have b62 : kB v62 0 16777215 := kB_eq e62 (kB_and 24 (by decide) (by decide))
      have V62 : v62 = nI (2 * B % 4294967296 % 16777216) := by rw [e62, V20, nI_msk (by omega) (k := 24) (by decide)]
      refine va_put (D := D) (ci := 1) (v := .int v62) (ty := .int) (C := RX1) (T := TX1) (N := 4) hx hb hts in_X1 tyX1 tyX1_ok nmX1 hown hK.1 hP hD hS 0 rfl rfl 1 (by decide) (hts _ mk_2) (fun _ h9 => h9) rfl (by decide +kernel) rfl rfl (Nat.le_of_ble_eq_true rfl) dX1_shiftBottom_63 (fun H locs hP hD hS => ?_)
      have hP : va_P D vwCl [(hwr, .inr (1, [.ref ho, .int v62, .int wg, .int v30])), (ho, .inr (3, [.ref hh, .int sz2_52])), (hh, .inl (cI, 600, .inl f2_52))] H := hP
      have hD : va_D A [(hwr, .inr (1, [.ref ho, .int v62, .int wg, .int v30])), (ho, .inr (3, [.ref hh, .int sz2_52])), (hh, .inl (cI, 600, .inl f2_52))] := hD
      refine lv_aload_n hx hb dX1_shiftBottom_66 rfl (lv_at hl 0 rfl) ?_
      refine lv_bipush (v := 8) hx hb dX1_shiftBottom_67 (by decide) ?_
      refine va_put (D := D) (ci := 1) (v := .int 8) (ty := .int) (C := RX1) (T := TX1) (N := 4) hx hb hts in_X1 tyX1 tyX1_ok nmX1 hown hK.1 hP hD hS 0 rfl rfl 3 (by decide) (hts _ mk_4) (fun _ h9 => h9) rfl (by decide +kernel) rfl rfl (Nat.le_of_ble_eq_true rfl) dX1_shiftBottom_69 (fun H locs hP hD hS => ?_)
      have hP : va_P D vwCl [(hwr, .inr (1, [.ref ho, .int v62, .int wg, .int 8])), (ho, .inr (3, [.ref hh, .int sz2_52])), (hh, .inl (cI, 600, .inl f2_52))] H := hP
      have hD : va_D A [(hwr, .inr (1, [.ref ho, .int v62, .int wg, .int 8])), (ho, .inr (3, [.ref hh, .int sz2_52])), (hh, .inl (cI, 600, .inl f2_52))] := hD
      have pf_c : kB (8 : Int32) 1 24 := (kB_w kc_8 (by decide) (by decide))
      have pf_n : kNF (8 : Int32).toInt sz2_52.toInt := (by omega)
      have pf_p : 8 * sz2_52.toInt - (8 : Int32).toInt = 8 * sz.toInt - sl.toInt + 1 := (by omega)
      have pf_e1 : v62 = nI (wSh (sl.toInt, sz.toInt, B, f)).2.2.1 := (by rw [wSh_1 HS1]; exact V62)
      have pf_e2 : (8 : Int32).toInt = (wSh (sl.toInt, sz.toInt, B, f)).1 := (by rw [wSh_1 HS1]; exact Z8)
      have pf_e3 : sz2_52.toInt = (wSh (sl.toInt, sz.toInt, B, f)).2.1 := (by rw [wSh_1 HS1]; exact q52_1)
      have pf_e4 : f2_52 = (wSh (sl.toInt, sz.toInt, B, f)).2.2.2 := (by rw [wSh_1 HS1]; exact F52)
      exact W.vret hx hb hr (fun t9 ht9 hW9 => ⟨⟨(v62, 8, sz2_52, f2_52), rfl, ⟨q52_0, pf_c, pf_n, pf_p, pf_e1, pf_e2, pf_e3, pf_e4⟩, by rw [ht9]; exact hP, hD⟩, hS.F ht9⟩) hS.2.2 dX1_shiftBottom_72
abbrev kw_X1_writeBit : List Cond := Cond.code yX1_writeBit cX1_writeBit 5 none :: kW
set_option maxHeartbeats 4000000 in
set_option maxRecDepth 100000 in
theorem lp_X1_writeBit_44 {p : Program} {l : Launch} {e : Env} {s : State} {m : MethodId} {args : Array Value} {below : List Frame} {meth : Method} {c : Code} {A : Nat → Prop} (D : va_G) (cI cJ cZ : ClassId) (hwr ho hh : Nat) (bo : Int32) (wg : Int32) (sl : Int32) (sz : Int32) (f : Nat → Int32) (pp : Int32) (bt : Int32) (B : Nat) (bwg : kB wg 128 255) (bp : kB pp 0 255) (bsz : kB sz 0 592) (bsl : kB sl 1 24) (nf : kNF sl.toInt sz.toInt) (hB : bo = nI B) (hB2 : B < 4294967296) (hx : p.tables.exec = Jvm.exec) (hb : c.code = cX1_writeBit) (hr : meth.sig.returnType = none) (hml : c.maxLocals = 5) (hown : s.vm.findClass RX1 = some m.cls) (hts : ∀ w ∈ kW, w.before args s = true) (hlocks : meth.locks = false) (hK : kK D cI cJ cZ s) (hA : ∀ q : Nat, s.heap.size ≤ q → A q) : ∀ n : Nat, ∀ (x4 : Int32) (bo2 : Int32) (wg2 : Int32) (sl2 : Int32) (sz2 : Int32) (f2 : Nat → Int32) (B2 : Nat), (7 - x4.toInt).toNat < n → (kB x4 0 7) → (kB wg2 1 255) → (kB sz2 0 600) → (kB sl2 1 24) → (kNF sl2.toInt sz2.toInt) → (krn wg2.toInt = krn (kr1 pp.toInt bt.toInt wg.toInt)) → (kdl wg2.toInt + x4.toInt = kdl (kr1 pp.toInt bt.toInt wg.toInt)) → (8 * sz2.toInt - sl2.toInt = 8 * sz.toInt - sl.toInt + x4.toInt) → (bo2 = nI B2) → (B2 < 4294967296) → (wIt (kdl wg2.toInt).toNat (sl2.toInt, sz2.toInt, B2, f2) = wIt (kdl (kr1 pp.toInt bt.toInt wg.toInt)).toNat (sl.toInt, sz.toInt, wB1 pp.toInt bt.toInt wg.toInt B, f)) → ∀ (H : Heap) (locs : List Loc) (ls : Array Slot), va_P D vwCl [(hwr, .inr (1, [.ref ho, .int bo2, .int wg2, .int sl2])), (ho, .inr (3, [.ref hh, .int sz2])), (hh, .inl (cI, 600, .inl f2))] H → va_D A [(hwr, .inr (1, [.ref ho, .int bo2, .int wg2, .int sl2])), (ho, .inr (3, [.ref hh, .int sz2])), (hh, .inl (cI, 600, .inl f2))] → va_S A s.heap H locs → lv_has ls 5 [(0, .ref hwr), (4, .int x4)] → W p l e (headSpec kw_X1_writeBit ({ frames := 2, cells := 0, slots := 0, locals := 41 })).room s m args below meth c H locs 0 0 (MQ below (va_Qv (fun (u : Int32 × Int32 × Int32 × Int32 × (Nat → Int32)) => (kB u.2.1 128 255) ∧ (kB u.2.2.2.1 0 600) ∧ (kB u.2.2.1 1 24) ∧ (kNF u.2.2.1.toInt u.2.2.2.1.toInt) ∧ (u.2.1.toInt = krn (kr1 pp.toInt bt.toInt wg.toInt)) ∧ (8 * u.2.2.2.1.toInt - u.2.2.1.toInt = 8 * sz.toInt - sl.toInt + kdl (kr1 pp.toInt bt.toInt wg.toInt)) ∧ (u.1 = nI (wIt (kdl (kr1 pp.toInt bt.toInt wg.toInt)).toNat (sl.toInt, sz.toInt, wB1 pp.toInt bt.toInt wg.toInt B, f)).2.2.1) ∧ (u.2.2.1.toInt = (wIt (kdl (kr1 pp.toInt bt.toInt wg.toInt)).toNat (sl.toInt, sz.toInt, wB1 pp.toInt bt.toInt wg.toInt B, f)).1) ∧ (u.2.2.2.1.toInt = (wIt (kdl (kr1 pp.toInt bt.toInt wg.toInt)).toNat (sl.toInt, sz.toInt, wB1 pp.toInt bt.toInt wg.toInt B, f)).2.1) ∧ (u.2.2.2.2 = (wIt (kdl (kr1 pp.toInt bt.toInt wg.toInt)).toNat (sl.toInt, sz.toInt, wB1 pp.toInt bt.toInt wg.toInt B, f)).2.2.2)) (fun (u : Int32 × Int32 × Int32 × Int32 × (Nat → Int32)) (t : State) => va_P D vwCl [(hwr, .inr (1, [.ref ho, .int u.1, .int u.2.1, .int u.2.2.1])), (ho, .inr (3, [.ref hh, .int u.2.2.2.1])), (hh, .inl (cI, 600, .inl u.2.2.2.2))] t.heap ∧ va_D A [(hwr, .inr (1, [.ref ho, .int u.1, .int u.2.1, .int u.2.2.1])), (ho, .inr (3, [.ref hh, .int u.2.2.2.1])), (hh, .inl (cI, 600, .inl u.2.2.2.2))]) A) args s 0 0 A) (F0 m 44 ls []) := by
  intro n
  induction n with
  | zero => intro x4 bo2 wg2 sl2 sz2 f2 B2 hmeas; exact absurd hmeas (Nat.not_lt_zero _)
  | succ n ih =>
    intro x4 bo2 wg2 sl2 sz2 f2 B2 hmeas b4 bwg2 bsz2 bsl2 nf2 kr kd ph hb2 hb3 hit H locs ls hP hD hS hl
    refine lv_iload hx hb dX1_writeBit_44 (lv_at hl 1 rfl) ?_
    refine lv_bipush (v := 7) hx hb dX1_writeBit_46 (by decide) ?_
    refine lv_icmp_ge (tgt := 81) hx hb dX1_writeBit_48 (by decide) (fun c48 => ?_) (fun c48 => ?_)
    · have c48y : kB x4 7 7 := kB_le_r kc_7 b4 c48 (by decide)
      have G48 : 128 ≤ wg2.toInt := kdl_z (by have := (kdl_le wg2.toInt).1; have := (kdl_le (kr1 pp.toInt bt.toInt wg.toInt)).2; have := c48y.1; omega)
      have B48 : kB wg2 128 255 := ⟨G48, bwg2.2⟩
      have E1 := krn_0 G48
      have E2 := kdl_0 G48
      rw [wIt_0 G48] at hit
      have pf_r_ : wg2.toInt = krn (kr1 pp.toInt bt.toInt wg.toInt) := (by omega)
      have pf_p : 8 * sz2.toInt - sl2.toInt = 8 * sz.toInt - sl.toInt + kdl (kr1 pp.toInt bt.toInt wg.toInt) := (by omega)
      have pf_e1 : bo2 = nI (wIt (kdl (kr1 pp.toInt bt.toInt wg.toInt)).toNat (sl.toInt, sz.toInt, wB1 pp.toInt bt.toInt wg.toInt B, f)).2.2.1 := (by rw [← hit]; exact hb2)
      have pf_e2 : sl2.toInt = (wIt (kdl (kr1 pp.toInt bt.toInt wg.toInt)).toNat (sl.toInt, sz.toInt, wB1 pp.toInt bt.toInt wg.toInt B, f)).1 := (by rw [← hit])
      have pf_e3 : sz2.toInt = (wIt (kdl (kr1 pp.toInt bt.toInt wg.toInt)).toNat (sl.toInt, sz.toInt, wB1 pp.toInt bt.toInt wg.toInt B, f)).2.1 := (by rw [← hit])
      have pf_e4 : f2 = (wIt (kdl (kr1 pp.toInt bt.toInt wg.toInt)).toNat (sl.toInt, sz.toInt, wB1 pp.toInt bt.toInt wg.toInt B, f)).2.2.2 := (by rw [← hit])
      exact W.vret hx hb hr (fun t9 ht9 hW9 => ⟨⟨(bo2, wg2, sl2, sz2, f2), rfl, ⟨B48, bsz2, bsl2, nf2, pf_r_, pf_p, pf_e1, pf_e2, pf_e3, pf_e4⟩, by rw [ht9]; exact hP, hD⟩, hS.F ht9⟩) hS.2.2 dX1_writeBit_81
    · have c48n : x4 < 7 := kN_le c48
      have c48nx : kB x4 0 6 := kB_lt_l b4 kc_7 c48n (by decide)
      refine lv_aload_n hx hb dX1_writeBit_51 rfl (lv_at hl 0 rfl) ?_
      refine va_get (D := D) (ci := 1) (v := .int wg2) (C := RX1) (T := TX1) (N := 4) hx hb hts in_X1 hown hK.1 hP 0 rfl rfl 2 (by decide) (hts _ mk_3) (fun _ h9 => h9) rfl dX1_writeBit_52 ?_
      refine lv_sipush (v := 128) hx hb dX1_writeBit_55 (by decide) ?_
      refine lv_icmp_ge (tgt := 81) hx hb dX1_writeBit_58 (by decide) (fun c58 => ?_) (fun c58 => ?_)
      · have c58y : kB wg2 128 255 := kB_le_r kc_128 bwg2 c58 (by decide)
        have G48 : 128 ≤ wg2.toInt := c58y.1
        have E1 := krn_0 G48
        have E2 := kdl_0 G48
        rw [wIt_0 G48] at hit
        have pf_r_ : wg2.toInt = krn (kr1 pp.toInt bt.toInt wg.toInt) := (by omega)
        have pf_p : 8 * sz2.toInt - sl2.toInt = 8 * sz.toInt - sl.toInt + kdl (kr1 pp.toInt bt.toInt wg.toInt) := (by omega)
        have pf_e1 : bo2 = nI (wIt (kdl (kr1 pp.toInt bt.toInt wg.toInt)).toNat (sl.toInt, sz.toInt, wB1 pp.toInt bt.toInt wg.toInt B, f)).2.2.1 := (by rw [← hit]; exact hb2)
        have pf_e2 : sl2.toInt = (wIt (kdl (kr1 pp.toInt bt.toInt wg.toInt)).toNat (sl.toInt, sz.toInt, wB1 pp.toInt bt.toInt wg.toInt B, f)).1 := (by rw [← hit])
        have pf_e3 : sz2.toInt = (wIt (kdl (kr1 pp.toInt bt.toInt wg.toInt)).toNat (sl.toInt, sz.toInt, wB1 pp.toInt bt.toInt wg.toInt B, f)).2.1 := (by rw [← hit])
        have pf_e4 : f2 = (wIt (kdl (kr1 pp.toInt bt.toInt wg.toInt)).toNat (sl.toInt, sz.toInt, wB1 pp.toInt bt.toInt wg.toInt B, f)).2.2.2 := (by rw [← hit])
        exact W.vret hx hb hr (fun t9 ht9 hW9 => ⟨⟨(bo2, wg2, sl2, sz2, f2), rfl, ⟨c58y, bsz2, bsl2, nf2, pf_r_, pf_p, pf_e1, pf_e2, pf_e3, pf_e4⟩, by rw [ht9]; exact hP, hD⟩, hS.F ht9⟩) hS.2.2 dX1_writeBit_81
      · have c58n : wg2 < 128 := kN_le c58
        have c58nx : kB wg2 1 127 := kB_lt_l bwg2 kc_128 c58n (by decide)
        refine lv_aload_n hx hb dX1_writeBit_61 rfl (lv_at hl 0 rfl) ?_
        refine lv_dup hx hb dX1_writeBit_62 rfl ?_
        refine va_get (D := D) (ci := 1) (v := .int wg2) (C := RX1) (T := TX1) (N := 4) hx hb hts in_X1 hown hK.1 hP 0 rfl rfl 2 (by decide) (hts _ mk_3) (fun _ h9 => h9) rfl dX1_writeBit_63 ?_
        refine lv_iconst (v := 1) hx hb dX1_writeBit_66 (by decide) ?_
        refine lv_ishl hx hb dX1_writeBit_67 ?_
        refine lv_topi (fun v67 e67 => ?_)
        have b67 : kB v67 2 254 := kB_eq e67 (kB_shl 1 (by decide) c58nx (by decide))
        have K67 : v67.toInt = 2 * wg2.toInt := by rw [e67]; exact kdbl (kB_w bwg2 (by decide) (by decide))
        have D67 := kdl_dbl (r := wg2.toInt) bwg2.1 (by have := c58nx.2; omega)
        have N67 := krn_dbl (r := wg2.toInt) bwg2.1 (by have := c58nx.2; omega)
        refine va_put (D := D) (ci := 1) (v := .int v67) (ty := .int) (C := RX1) (T := TX1) (N := 4) hx hb hts in_X1 tyX1 tyX1_ok nmX1 hown hK.1 hP hD hS 0 rfl rfl 2 (by decide) (hts _ mk_3) (fun _ h9 => h9) rfl (by decide +kernel) rfl rfl (Nat.le_of_ble_eq_true rfl) dX1_writeBit_68 (fun H locs hP hD hS => ?_)
        have hP : va_P D vwCl [(hwr, .inr (1, [.ref ho, .int bo2, .int v67, .int sl2])), (ho, .inr (3, [.ref hh, .int sz2])), (hh, .inl (cI, 600, .inl f2))] H := hP
        have hD : va_D A [(hwr, .inr (1, [.ref ho, .int bo2, .int v67, .int sl2])), (ho, .inr (3, [.ref hh, .int sz2])), (hh, .inl (cI, 600, .inl f2))] := hD
        refine lv_aload_n hx hb dX1_writeBit_71 rfl (lv_at hl 0 rfl) ?_
        have B72 : kB sz2 0 599 := ⟨by omega, by omega⟩
        have hPc := hP.sub (ws' := [(hwr, .inr (1, [.ref ho, .int bo2, .int v67, .int sl2])), (ho, .inr (3, [.ref hh, .int sz2])), (hh, .inl (cI, 600, .inl f2))]) [0, 1, 2] rfl
        have hDc := hD.sub (ws' := [(hwr, .inr (1, [.ref ho, .int bo2, .int v67, .int sl2])), (ho, .inr (3, [.ref hh, .int sz2])), (hh, .inl (cI, 600, .inl f2))]) [0, 1, 2] (by decide) rfl
        have hFc := va_free (wc := [(hwr, .inr (1, [.ref ho, .int bo2, .int v67, .int sl2])), (ho, .inr (3, [.ref hh, .int sz2])), (hh, .inl (cI, 600, .inl f2))]) hD hS hA [0, 1, 2] rfl
        refine va_callv (va_runV (As := []) (rest := []) ⟨hx, hb, hml, hown, hts⟩ (c_X1_shiftBottom l D cI cJ cZ hwr ho hh bo2 v67 sl2 sz2 f2 B2 B72 bsl2 nf2 hb2 hb3 (H).size) (cwV 0 hts (kg_V mk_19 mk_20 mk_21 mk_22 mk_23) rfl rfl rfl (by decide +kernel) ⟨Nat.le_of_ble_eq_true rfl, Nat.le_of_ble_eq_true rfl⟩) ⟨fun a U g mk q => by obtain ⟨q0, q1, qP, qK, qD⟩ := q; exact ⟨q0, q1, qP, kK.call qK, qD⟩, va_recv hK.1 hPc (ci := 1) (q0 := 0) rfl rfl, fun U hU hW => ⟨rfl, by rw [hU], by rw [hU]; exact hPc, kK.warm hW hK, hDc.weaken (fun _ _ _ _ => trivial)⟩⟩ rfl rfl hl.1 rfl (lv_room (Nat.le_of_ble_eq_true rfl)) dX1_writeBit_72 ⟨Nat.zero_le _, Nat.zero_le _⟩) hS (fun q _ h => hFc q h) hFc (fun u t9 H1 locs ht9 hvm9 hw9 hB9 hz9 hk9 hS => ?_)
        obtain ⟨bo2_72, sl2_72, sz2_72, f2_72⟩ := u
        obtain ⟨hP1, hD1⟩ := hB9
        rw [ht9] at hP1
        have hP1 : va_P D vwCl [(hwr, .inr (1, [.ref ho, .int bo2_72, .int v67, .int sl2_72])), (ho, .inr (3, [.ref hh, .int sz2_72])), (hh, .inl (cI, 600, .inl f2_72))] H1 := hP1
        obtain ⟨hP, hD⟩ := va_join (wr := []) (w1 := [(hwr, .inr (1, [.ref ho, .int bo2_72, .int v67, .int sl2_72])), (ho, .inr (3, [.ref hh, .int sz2_72])), (hh, .inl (cI, 600, .inl f2_72))]) hP hD [0, 1, 2] [] rfl rfl (by decide) (by decide) hk9 hFc hP1 hD1
        have hP := hP.sub (ws' := [(hwr, .inr (1, [.ref ho, .int bo2_72, .int v67, .int sl2_72])), (ho, .inr (3, [.ref hh, .int sz2_72])), (hh, .inl (cI, 600, .inl f2_72))]) [0, 1, 2] rfl
        have hD := hD.sub (ws' := [(hwr, .inr (1, [.ref ho, .int bo2_72, .int v67, .int sl2_72])), (ho, .inr (3, [.ref hh, .int sz2_72])), (hh, .inl (cI, 600, .inl f2_72))]) [0, 1, 2] (by decide) rfl
        generalize H1 = H at hP hS ⊢
        obtain ⟨q72_0, q72_1, q72_2, q72_3, q72_4, q72_5, q72_6, q72_7⟩ := hw9
        have q72_0 : kB sz2_72 0 600 := q72_0
        have q72_1 : kB sl2_72 1 24 := q72_1
        have q72_2 : kNF sl2_72.toInt sz2_72.toInt := q72_2
        have q72_3 : 8 * sz2_72.toInt - sl2_72.toInt = 8 * sz2.toInt - sl2.toInt + 1 := q72_3
        have q72_4 : bo2_72 = nI (wSh (sl2.toInt, sz2.toInt, B2, f2)).2.2.1 := q72_4
        have q72_5 : sl2_72.toInt = (wSh (sl2.toInt, sz2.toInt, B2, f2)).1 := q72_5
        have q72_6 : sz2_72.toInt = (wSh (sl2.toInt, sz2.toInt, B2, f2)).2.1 := q72_6
        have q72_7 : f2_72 = (wSh (sl2.toInt, sz2.toInt, B2, f2)).2.2.2 := q72_7
        obtain ⟨v75, e75⟩ : ∃ y : Int32, y = x4 + 1 := ⟨_, rfl⟩
        refine lv_iinc (v := v75) (lv' := [(4, .int v75), (0, .ref hwr)]) hx hb dX1_writeBit_75 hl (k := 1) rfl (by rw [e75]; rfl) (by decide) rfl (fun ls hl => ?_)
        have b75 : kB v75 1 7 := kB_eq e75 (kB_add c48nx kc_1 (by decide))
        have t75 : v75.toInt = x4.toInt + 1 := by rw [e75]; exact kinc (kB_w c48nx (by decide) (by decide))
        refine lv_goto (tgt := 44) hx hb dX1_writeBit_78 (by decide) ?_
        exact ih v75 bo2_72 v67 sl2_72 sz2_72 f2_72 ((wSh (sl2.toInt, sz2.toInt, B2, f2)).2.2.1) (by have := b75.1; have := b75.2; have := b67.1; have := b67.2; have := q72_1.1; have := q72_1.2; have := q72_0.1; have := q72_0.2; have := c48nx.1; have := c48nx.2; have := c58nx.1; have := c58nx.2; have := bsl2.1; have := bsl2.2; have := B72.1; have := B72.2; omega) (kB_w b75 (by decide) (by decide)) (kB_w b67 (by decide) (by decide)) q72_0 q72_1 q72_2 (by rw [K67, N67]; exact kr) (by rw [K67, t75]; omega) (by rw [t75]; omega) q72_4 (wSh_lt hb3) (by rw [K67, q72_5, q72_6, q72_7]; rw [wIt_dbl bwg2.1 (by have := c58nx.2; omega)] at hit; exact hit) _ _ ls hP hD hS (lv_sub hl [1, 0] rfl)
set_option maxHeartbeats 4000000 in
set_option maxRecDepth 100000 in
theorem c_X1_writeBit (l : Launch) (D : va_G) (cI cJ cZ : ClassId) (hwr ho hh : Nat) (bo : Int32) (wg : Int32) (sl : Int32) (sz : Int32) (f : Nat → Int32) (pp : Int32) (bt : Int32) (B : Nat) (bwg : kB wg 128 255) (bp : kB pp 0 255) (bsz : kB sz 0 592) (bsl : kB sl 1 24) (nf : kNF sl.toInt sz.toInt) (hB : bo = nI B) (hB2 : B < 4294967296) (hpz : Nat) : Met l yX1_writeBit kw_X1_writeBit ({ frames := 2, cells := 0, slots := 0, locals := 41 }) (va_Pc [.ref hwr, .int pp, .int bt] (fun U => U.heap.size = hpz ∧ va_P D vwCl [(hwr, .inr (1, [.ref ho, .int bo, .int wg, .int sl])), (ho, .inr (3, [.ref hh, .int sz])), (hh, .inl (cI, 600, .inl f))] U.heap ∧ kK D cI cJ cZ U ∧ va_D (fun _ => True) [(hwr, .inr (1, [.ref ho, .int bo, .int wg, .int sl])), (ho, .inr (3, [.ref hh, .int sz])), (hh, .inl (cI, 600, .inl f))])) (va_Qv (fun (u : Int32 × Int32 × Int32 × Int32 × (Nat → Int32)) => (kB u.2.1 128 255) ∧ (kB u.2.2.2.1 0 600) ∧ (kB u.2.2.1 1 24) ∧ (kNF u.2.2.1.toInt u.2.2.2.1.toInt) ∧ (u.2.1.toInt = krn (kr1 pp.toInt bt.toInt wg.toInt)) ∧ (8 * u.2.2.2.1.toInt - u.2.2.1.toInt = 8 * sz.toInt - sl.toInt + kdl (kr1 pp.toInt bt.toInt wg.toInt)) ∧ (u.1 = nI (wIt (kdl (kr1 pp.toInt bt.toInt wg.toInt)).toNat (sl.toInt, sz.toInt, wB1 pp.toInt bt.toInt wg.toInt B, f)).2.2.1) ∧ (u.2.2.1.toInt = (wIt (kdl (kr1 pp.toInt bt.toInt wg.toInt)).toNat (sl.toInt, sz.toInt, wB1 pp.toInt bt.toInt wg.toInt B, f)).1) ∧ (u.2.2.2.1.toInt = (wIt (kdl (kr1 pp.toInt bt.toInt wg.toInt)).toNat (sl.toInt, sz.toInt, wB1 pp.toInt bt.toInt wg.toInt B, f)).2.1) ∧ (u.2.2.2.2 = (wIt (kdl (kr1 pp.toInt bt.toInt wg.toInt)).toNat (sl.toInt, sz.toInt, wB1 pp.toInt bt.toInt wg.toInt B, f)).2.2.2)) (fun (u : Int32 × Int32 × Int32 × Int32 × (Nat → Int32)) (t : State) => va_P D vwCl [(hwr, .inr (1, [.ref ho, .int u.1, .int u.2.1, .int u.2.2.1])), (ho, .inr (3, [.ref hh, .int u.2.2.2.1])), (hh, .inl (cI, 600, .inl u.2.2.2.2))] t.heap ∧ va_D (va_A [(hwr, .inr (1, [.ref ho, .int bo, .int wg, .int sl])), (ho, .inr (3, [.ref hh, .int sz])), (hh, .inl (cI, 600, .inl f))] hpz) [(hwr, .inr (1, [.ref ho, .int u.1, .int u.2.1, .int u.2.2.1])), (ho, .inr (3, [.ref hh, .int u.2.2.2.1])), (hh, .inl (cI, 600, .inl u.2.2.2.2))]) (va_A [(hwr, .inr (1, [.ref ho, .int bo, .int wg, .int sl])), (ho, .inr (3, [.ref hh, .int sz])), (hh, .inl (cI, 600, .inl f))] hpz)) 0 0 (va_A [(hwr, .inr (1, [.ref ho, .int bo, .int wg, .int sl])), (ho, .inr (3, [.ref hh, .int sz])), (hh, .inl (cI, 600, .inl f))] hpz) := by
  refine Met.ofW (cc := cX1_writeBit) (maxL := 5) (ret := none) (by decide) rfl ?_
  intro p e s m args below meth c s₁ B hml hv
  obtain ⟨rfl, hsz, hP, hK, hD0⟩ := hv
  have hx := B.exec
  have hb := B.bytes
  have hr := B.returns
  have hts := fun (w : Cond) (h : w ∈ kW) => atoms_spec (ws := kw_X1_writeBit) B.pre w (List.mem_cons_of_mem _ h)
  have hown : s.vm.findClass RX1 = some m.cls := findClass_of_methodNamed B.named
  have hlocks := B.notSynchronized
  subst hsz
  have hD := hD0.self (sz := s.heap.size)
  generalize hAe : va_A [(hwr, .inr (1, [.ref ho, .int bo, .int wg, .int sl])), (ho, .inr (3, [.ref hh, .int sz])), (hh, .inl (cI, 600, .inl f))] s.heap.size = A at hD ⊢
  have hA : ∀ q : Nat, s.heap.size ≤ q → A q := fun q h => by rw [← hAe]; exact Or.inr h
  have hS : va_S A s.heap s.heap [] := va_S.rf
  have hP : va_P D vwCl [(hwr, .inr (1, [.ref ho, .int bo, .int wg, .int sl])), (ho, .inr (3, [.ref hh, .int sz])), (hh, .inl (cI, 600, .inl f))] s.heap := hP
  have hl := lv_entry ([.ref hwr, .int pp, .int bt]) (n := 5) (Nat.le_of_ble_eq_true rfl)
  rw [lg_entry_eq]
  generalize (lg_sl ([.ref hwr, .int pp, .int bt]) ++ List.replicate (5 - (lg_sl ([.ref hwr, .int pp, .int bt])).length) Slot.unset).toArray = ls at hl ⊢
  have hl : lv_has ls 5 [(0, .ref hwr), (1, .int pp), (2, .int bt)] := hl
  refine lv_aload_n hx hb dX1_writeBit_0 rfl (lv_at hl 0 rfl) ?_
  refine va_get (D := D) (ci := 1) (v := .int wg) (C := RX1) (T := TX1) (N := 4) hx hb hts in_X1 hown hK.1 hP 0 rfl rfl 2 (by decide) (hts _ mk_3) (fun _ h9 => h9) rfl dX1_writeBit_1 ?_
  refine lv_iload_n hx hb dX1_writeBit_4 rfl (lv_at hl 1 rfl) ?_
  have hPc := hP.sub (ws' := []) [] rfl
  have hDc := hD.sub (ws' := []) [] (by decide) rfl
  have hFc := va_free (wc := []) hD hS hA [] rfl
  refine va_calli (va_runSN (As := [.int wg, .int pp]) (rest := []) ⟨hx, hb, hml, hown, hts⟩ (c_X7_splitOf l D cI cJ cZ wg pp bwg bp (s.heap).size) (⟨va_cnB 2 hts (kg_N mk_16) rfl rfl rfl (hK.2 (.methodLinkNest RX1 23 yX7_splitOf "KeyFrames") (by decide +kernel)) (hts _ mk_17) (by decide +kernel) ⟨Nat.le_of_ble_eq_true rfl, Nat.le_of_ble_eq_true rfl⟩, (hts _ mk_18), trivial⟩) ⟨fun a U g mk q => by obtain ⟨q0, q1, qP, qK, qD⟩ := q; exact ⟨q0, q1, qP, kK.call qK, qD⟩, fun U hU hW => ⟨rfl, by rw [hU], by rw [hU]; exact hPc, kK.warm hW hK, hDc.weaken (fun _ _ _ _ => trivial)⟩⟩ rfl rfl hl.1 rfl (lv_room (Nat.le_of_ble_eq_true rfl)) dX1_writeBit_5 ⟨Nat.zero_le _, Nat.zero_le _⟩) hS (fun q _ h => hFc q h) hFc (fun r5 u t9 H1 locs ht9 hvm9 hw9 hB9 hz9 hk9 hS => ?_)
  obtain ⟨hP1, hD1⟩ := hB9
  rw [ht9] at hP1
  have hP1 : va_P D vwCl [] H1 := hP1
  obtain ⟨hP, hD⟩ := va_join (wr := [(hwr, .inr (1, [.ref ho, .int bo, .int wg, .int sl])), (ho, .inr (3, [.ref hh, .int sz])), (hh, .inl (cI, 600, .inl f))]) (w1 := []) hP hD [] [0, 1, 2] rfl rfl (by decide) (by decide) hk9 hFc hP1 hD1
  have hP := hP.sub (ws' := [(hwr, .inr (1, [.ref ho, .int bo, .int wg, .int sl])), (ho, .inr (3, [.ref hh, .int sz])), (hh, .inl (cI, 600, .inl f))]) [0, 1, 2] rfl
  have hD := hD.sub (ws' := [(hwr, .inr (1, [.ref ho, .int bo, .int wg, .int sl])), (ho, .inr (3, [.ref hh, .int sz])), (hh, .inl (cI, 600, .inl f))]) [0, 1, 2] (by decide) rfl
  generalize H1 = H at hP hS ⊢
  obtain ⟨q5_0, q5_1, q5_2⟩ := hw9
  have q5_0 : r5.toInt = 1 + (wg.toInt - 1) * pp.toInt / 256 := q5_0
  have q5_1 : r5.toInt < wg.toInt := q5_1
  have q5_2 : kB r5 1 254 := q5_2
  refine lv_istore_n (lv' := [(3, .int r5), (0, .ref hwr), (1, .int pp), (2, .int bt)]) hx hb dX1_writeBit_8 rfl hl (by decide) rfl (fun ls hl => ?_)
  refine lv_iload_n hx hb dX1_writeBit_9 rfl (lv_at hl 3 rfl) ?_
  refine lv_if_ne (tgt := 21) hx hb dX1_writeBit_10 (by decide) (fun c10 => ?_) (fun c10 => ?_)
  · refine lv_aload_n hx hb dX1_writeBit_21 rfl (lv_at hl 1 rfl) ?_
    refine lv_dup hx hb dX1_writeBit_22 rfl ?_
    refine va_get (D := D) (ci := 1) (v := .int bo) (C := RX1) (T := TX1) (N := 4) hx hb hts in_X1 hown hK.1 hP 0 rfl rfl 1 (by decide) (hts _ mk_2) (fun _ h9 => h9) rfl dX1_writeBit_23 ?_
    refine lv_iload_n hx hb dX1_writeBit_26 rfl (lv_at hl 0 rfl) ?_
    refine lv_iadd hx hb dX1_writeBit_27 ?_
    refine lv_topi (fun v27 e27 => ?_)
    refine va_put (D := D) (ci := 1) (v := .int v27) (ty := .int) (C := RX1) (T := TX1) (N := 4) hx hb hts in_X1 tyX1 tyX1_ok nmX1 hown hK.1 hP hD hS 0 rfl rfl 1 (by decide) (hts _ mk_2) (fun _ h9 => h9) rfl (by decide +kernel) rfl rfl (Nat.le_of_ble_eq_true rfl) dX1_writeBit_28 (fun H locs hP hD hS => ?_)
    have hP : va_P D vwCl [(hwr, .inr (1, [.ref ho, .int v27, .int wg, .int sl])), (ho, .inr (3, [.ref hh, .int sz])), (hh, .inl (cI, 600, .inl f))] H := hP
    have hD : va_D A [(hwr, .inr (1, [.ref ho, .int v27, .int wg, .int sl])), (ho, .inr (3, [.ref hh, .int sz])), (hh, .inl (cI, 600, .inl f))] := hD
    refine lv_aload_n hx hb dX1_writeBit_31 rfl (lv_at hl 1 rfl) ?_
    refine lv_dup hx hb dX1_writeBit_32 rfl ?_
    refine va_get (D := D) (ci := 1) (v := .int wg) (C := RX1) (T := TX1) (N := 4) hx hb hts in_X1 hown hK.1 hP 0 rfl rfl 2 (by decide) (hts _ mk_3) (fun _ h9 => h9) rfl dX1_writeBit_33 ?_
    refine lv_iload_n hx hb dX1_writeBit_36 rfl (lv_at hl 0 rfl) ?_
    refine lv_isub hx hb dX1_writeBit_37 ?_
    refine lv_topi (fun v37 e37 => ?_)
    have b37 : kB v37 (-126) 254 := kB_eq e37 (kB_sub bwg q5_2 (by decide))
    have X37 : v37.toInt = wg.toInt - r5.toInt := by rw [e37, kI_sub (by have := q5_2.2; have := bwg.1; omega) (by have := q5_2.1; have := bwg.2; omega)]
    have B37 : kB v37 1 254 := ⟨by rw [X37]; have := q5_1; omega, by rw [X37]; have := q5_2.1; have := bwg.2; omega⟩
    have R1 : v37.toInt = (kr1 pp.toInt bt.toInt wg.toInt) := by rw [X37, q5_0]; unfold kr1; rw [if_neg (kn0 c10)]
    have WB : wB1 pp.toInt bt.toInt wg.toInt B = (B + (1 + (wg.toInt - 1) * pp.toInt / 256).toNat) % 4294967296 := by unfold wB1; rw [if_neg (kn0 c10)]
    have HB : v27 = nI ((B + (1 + (wg.toInt - 1) * pp.toInt / 256).toNat) % 4294967296) := by rw [e27, hB, nI_of_toInt (x := r5) (by have := q5_2.1; omega), nI_add, q5_0, ← nI_mod]
    have HB3 : (B + (1 + (wg.toInt - 1) * pp.toInt / 256).toNat) % 4294967296 < 4294967296 := Nat.mod_lt _ (by decide)
    refine va_put (D := D) (ci := 1) (v := .int v37) (ty := .int) (C := RX1) (T := TX1) (N := 4) hx hb hts in_X1 tyX1 tyX1_ok nmX1 hown hK.1 hP hD hS 0 rfl rfl 2 (by decide) (hts _ mk_3) (fun _ h9 => h9) rfl (by decide +kernel) rfl rfl (Nat.le_of_ble_eq_true rfl) dX1_writeBit_38 (fun H locs hP hD hS => ?_)
    have hP : va_P D vwCl [(hwr, .inr (1, [.ref ho, .int v27, .int v37, .int sl])), (ho, .inr (3, [.ref hh, .int sz])), (hh, .inl (cI, 600, .inl f))] H := hP
    have hD : va_D A [(hwr, .inr (1, [.ref ho, .int v27, .int v37, .int sl])), (ho, .inr (3, [.ref hh, .int sz])), (hh, .inl (cI, 600, .inl f))] := hD
    refine lv_iconst (v := 0) hx hb dX1_writeBit_41 (by decide) ?_
    refine lv_istore (lv' := [(4, .int 0), (3, .int r5), (0, .ref hwr), (1, .int pp), (2, .int bt)]) hx hb dX1_writeBit_42 hl (by decide) rfl (fun ls hl => ?_)
    exact lp_X1_writeBit_44 D cI cJ cZ hwr ho hh bo wg sl sz f pp bt B bwg bp bsz bsl nf hB hB2 hx hb hr hml hown hts hlocks hK hA ((7 - (0 : Int32).toInt).toNat + 1) 0 v27 v37 sl sz f ((B + (1 + (wg.toInt - 1) * pp.toInt / 256).toNat) % 4294967296) (Nat.lt_succ_self _) (kB_w kc_0 (by decide) (by decide)) (kB_w B37 (by decide) (by decide)) (kB_w bsz (by decide) (by decide)) bsl nf (by rw [R1]) (by rw [R1, show (0 : Int32).toInt = 0 from by decide]; omega) (by rw [show (0 : Int32).toInt = 0 from by decide]; omega) HB HB3 (by rw [R1, WB]) _ _ ls hP hD hS (lv_sub hl [2, 0] rfl)
  · have c10x : kB bt 0 0 := kB_eq c10 kc_0
    refine lv_aload_n hx hb dX1_writeBit_13 rfl (lv_at hl 1 rfl) ?_
    refine lv_iload_n hx hb dX1_writeBit_14 rfl (lv_at hl 0 rfl) ?_
    have R1 : r5.toInt = (kr1 pp.toInt bt.toInt wg.toInt) := by rw [q5_0]; unfold kr1; rw [if_pos (k0 c10)]
    have WB : wB1 pp.toInt bt.toInt wg.toInt B = B := by unfold wB1; rw [if_pos (k0 c10)]
    have HB : bo = nI B := hB
    have HB3 : B < 4294967296 := hB2
    refine va_put (D := D) (ci := 1) (v := .int r5) (ty := .int) (C := RX1) (T := TX1) (N := 4) hx hb hts in_X1 tyX1 tyX1_ok nmX1 hown hK.1 hP hD hS 0 rfl rfl 2 (by decide) (hts _ mk_3) (fun _ h9 => h9) rfl (by decide +kernel) rfl rfl (Nat.le_of_ble_eq_true rfl) dX1_writeBit_15 (fun H locs hP hD hS => ?_)
    have hP : va_P D vwCl [(hwr, .inr (1, [.ref ho, .int bo, .int r5, .int sl])), (ho, .inr (3, [.ref hh, .int sz])), (hh, .inl (cI, 600, .inl f))] H := hP
    have hD : va_D A [(hwr, .inr (1, [.ref ho, .int bo, .int r5, .int sl])), (ho, .inr (3, [.ref hh, .int sz])), (hh, .inl (cI, 600, .inl f))] := hD
    refine lv_goto (tgt := 41) hx hb dX1_writeBit_18 (by decide) ?_
    refine lv_iconst (v := 0) hx hb dX1_writeBit_41 (by decide) ?_
    refine lv_istore (lv' := [(4, .int 0), (3, .int r5), (0, .ref hwr), (1, .int pp), (2, .int bt)]) hx hb dX1_writeBit_42 hl (by decide) rfl (fun ls hl => ?_)
    exact lp_X1_writeBit_44 D cI cJ cZ hwr ho hh bo wg sl sz f pp bt B bwg bp bsz bsl nf hB hB2 hx hb hr hml hown hts hlocks hK hA ((7 - (0 : Int32).toInt).toNat + 1) 0 bo r5 sl sz f B (Nat.lt_succ_self _) (kB_w kc_0 (by decide) (by decide)) (kB_w q5_2 (by decide) (by decide)) (kB_w bsz (by decide) (by decide)) bsl nf (by rw [R1]) (by rw [R1, show (0 : Int32).toInt = 0 from by decide]; omega) (by rw [show (0 : Int32).toInt = 0 from by decide]; omega) HB HB3 (by rw [R1, WB]) _ _ ls hP hD hS (lv_sub hl [2, 0] rfl)
end
section
abbrev kw_X8_erase : List Cond := Cond.code yX8_erase cX8_erase 2 (some .int) :: kW
set_option maxHeartbeats 4000000 in
set_option maxRecDepth 100000 in
theorem c_X8_erase (l : Launch) (D : va_G) (cI cJ cZ : ClassId) (hm hby hpb hwa hmn hcf hsa hro : Nat) (mrf : Int32) (msz : Int32) (mbg : Int32) (mrg : Int32) (mct : Int32) (mvl : Int32) (mpl : Int32) (mcl : Int32) (mrw : Int32) (mqt : Int32) (mlv : Int32) (mtl : Int32) (mbe : Int32) (mch : Int32) (mbt : Int64) (hpz : Nat) : Met l yX8_erase kw_X8_erase ({ frames := 0, cells := 0, slots := 0, locals := 0 }) (va_Pc [.ref hm] (fun U => U.heap.size = hpz ∧ va_P D vwCl [(hm, .inr (8, [.int mrf, .ref hby, .int msz, .int mbg, .long mbt, .int mrg, .int mct, .int mvl, .int mpl, .int mcl, .int mrw, .int mqt, .int mlv, .int mtl, .int mbe, .int mch, .ref hpb, .ref hwa, .ref hmn, .ref hcf, .ref hsa, .ref hro]))] U.heap ∧ kK D cI cJ cZ U ∧ va_D (fun _ => True) [(hm, .inr (8, [.int mrf, .ref hby, .int msz, .int mbg, .long mbt, .int mrg, .int mct, .int mvl, .int mpl, .int mcl, .int mrw, .int mqt, .int mlv, .int mtl, .int mbe, .int mch, .ref hpb, .ref hwa, .ref hmn, .ref hcf, .ref hsa, .ref hro]))])) (va_Qi (fun (r : Int32) (u : Unit) => (r = msz)) (fun (u : Unit) (t : State) => va_P D vwCl [(hm, .inr (8, [.int 0, .ref hby, .int 0, .int 0, .long mbt, .int mrg, .int mct, .int mvl, .int mpl, .int mcl, .int mrw, .int mqt, .int mlv, .int mtl, .int mbe, .int mch, .ref hpb, .ref hwa, .ref hmn, .ref hcf, .ref hsa, .ref hro]))] t.heap ∧ va_D (va_A [(hm, .inr (8, [.int mrf, .ref hby, .int msz, .int mbg, .long mbt, .int mrg, .int mct, .int mvl, .int mpl, .int mcl, .int mrw, .int mqt, .int mlv, .int mtl, .int mbe, .int mch, .ref hpb, .ref hwa, .ref hmn, .ref hcf, .ref hsa, .ref hro]))] hpz) [(hm, .inr (8, [.int 0, .ref hby, .int 0, .int 0, .long mbt, .int mrg, .int mct, .int mvl, .int mpl, .int mcl, .int mrw, .int mqt, .int mlv, .int mtl, .int mbe, .int mch, .ref hpb, .ref hwa, .ref hmn, .ref hcf, .ref hsa, .ref hro]))]) (va_A [(hm, .inr (8, [.int mrf, .ref hby, .int msz, .int mbg, .long mbt, .int mrg, .int mct, .int mvl, .int mpl, .int mcl, .int mrw, .int mqt, .int mlv, .int mtl, .int mbe, .int mch, .ref hpb, .ref hwa, .ref hmn, .ref hcf, .ref hsa, .ref hro]))] hpz)) 0 0 (va_A [(hm, .inr (8, [.int mrf, .ref hby, .int msz, .int mbg, .long mbt, .int mrg, .int mct, .int mvl, .int mpl, .int mcl, .int mrw, .int mqt, .int mlv, .int mtl, .int mbe, .int mch, .ref hpb, .ref hwa, .ref hmn, .ref hcf, .ref hsa, .ref hro]))] hpz) := by
  refine Met.ofW (cc := cX8_erase) (maxL := 2) (ret := (some .int)) (by decide) rfl ?_
  intro p e s m args below meth c s₁ B hml hv
  obtain ⟨rfl, hsz, hP, hK, hD0⟩ := hv
  have hx := B.exec
  have hb := B.bytes
  have hr := B.returns
  have hts := fun (w : Cond) (h : w ∈ kW) => atoms_spec (ws := kw_X8_erase) B.pre w (List.mem_cons_of_mem _ h)
  have hown : s.vm.findClass RX8 = some m.cls := findClass_of_methodNamed B.named
  have hlocks := B.notSynchronized
  subst hsz
  have hD := hD0.self (sz := s.heap.size)
  generalize hAe : va_A [(hm, .inr (8, [.int mrf, .ref hby, .int msz, .int mbg, .long mbt, .int mrg, .int mct, .int mvl, .int mpl, .int mcl, .int mrw, .int mqt, .int mlv, .int mtl, .int mbe, .int mch, .ref hpb, .ref hwa, .ref hmn, .ref hcf, .ref hsa, .ref hro]))] s.heap.size = A at hD ⊢
  have hA : ∀ q : Nat, s.heap.size ≤ q → A q := fun q h => by rw [← hAe]; exact Or.inr h
  have hS : va_S A s.heap s.heap [] := va_S.rf
  have hP : va_P D vwCl [(hm, .inr (8, [.int mrf, .ref hby, .int msz, .int mbg, .long mbt, .int mrg, .int mct, .int mvl, .int mpl, .int mcl, .int mrw, .int mqt, .int mlv, .int mtl, .int mbe, .int mch, .ref hpb, .ref hwa, .ref hmn, .ref hcf, .ref hsa, .ref hro]))] s.heap := hP
  have hl := lv_entry ([.ref hm]) (n := 2) (Nat.le_of_ble_eq_true rfl)
  rw [lg_entry_eq]
  generalize (lg_sl ([.ref hm]) ++ List.replicate (2 - (lg_sl ([.ref hm])).length) Slot.unset).toArray = ls at hl ⊢
  have hl : lv_has ls 2 [(0, .ref hm)] := hl
  refine lv_aload_n hx hb dX8_erase_0 rfl (lv_at hl 0 rfl) ?_
  refine lv_iconst (v := 0) hx hb dX8_erase_1 (by decide) ?_
  refine va_put (D := D) (ci := 8) (v := .int 0) (ty := .int) (C := RX8) (T := TX8) (N := 22) hx hb hts in_X8 tyX8 tyX8_ok nmX8 hown hK.1 hP hD hS 0 rfl rfl 0 (by decide) (hts _ mk_24) (fun _ h9 => h9) rfl (by decide +kernel) rfl rfl (Nat.le_of_ble_eq_true rfl) dX8_erase_2 (fun H locs hP hD hS => ?_)
  have hP : va_P D vwCl [(hm, .inr (8, [.int 0, .ref hby, .int msz, .int mbg, .long mbt, .int mrg, .int mct, .int mvl, .int mpl, .int mcl, .int mrw, .int mqt, .int mlv, .int mtl, .int mbe, .int mch, .ref hpb, .ref hwa, .ref hmn, .ref hcf, .ref hsa, .ref hro]))] H := hP
  have hD : va_D A [(hm, .inr (8, [.int 0, .ref hby, .int msz, .int mbg, .long mbt, .int mrg, .int mct, .int mvl, .int mpl, .int mcl, .int mrw, .int mqt, .int mlv, .int mtl, .int mbe, .int mch, .ref hpb, .ref hwa, .ref hmn, .ref hcf, .ref hsa, .ref hro]))] := hD
  refine lv_aload_n hx hb dX8_erase_5 rfl (lv_at hl 0 rfl) ?_
  refine va_get (D := D) (ci := 8) (v := .int msz) (C := RX8) (T := TX8) (N := 22) hx hb hts in_X8 hown hK.1 hP 0 rfl rfl 2 (by decide) (hts _ mk_25) (fun _ h9 => h9) rfl dX8_erase_6 ?_
  refine lv_istore_n (lv' := [(1, .int msz), (0, .ref hm)]) hx hb dX8_erase_9 rfl hl (by decide) rfl (fun ls hl => ?_)
  refine lv_aload_n hx hb dX8_erase_10 rfl (lv_at hl 1 rfl) ?_
  refine lv_iconst (v := 0) hx hb dX8_erase_11 (by decide) ?_
  refine va_put (D := D) (ci := 8) (v := .int 0) (ty := .int) (C := RX8) (T := TX8) (N := 22) hx hb hts in_X8 tyX8 tyX8_ok nmX8 hown hK.1 hP hD hS 0 rfl rfl 2 (by decide) (hts _ mk_25) (fun _ h9 => h9) rfl (by decide +kernel) rfl rfl (Nat.le_of_ble_eq_true rfl) dX8_erase_12 (fun H locs hP hD hS => ?_)
  have hP : va_P D vwCl [(hm, .inr (8, [.int 0, .ref hby, .int 0, .int mbg, .long mbt, .int mrg, .int mct, .int mvl, .int mpl, .int mcl, .int mrw, .int mqt, .int mlv, .int mtl, .int mbe, .int mch, .ref hpb, .ref hwa, .ref hmn, .ref hcf, .ref hsa, .ref hro]))] H := hP
  have hD : va_D A [(hm, .inr (8, [.int 0, .ref hby, .int 0, .int mbg, .long mbt, .int mrg, .int mct, .int mvl, .int mpl, .int mcl, .int mrw, .int mqt, .int mlv, .int mtl, .int mbe, .int mch, .ref hpb, .ref hwa, .ref hmn, .ref hcf, .ref hsa, .ref hro]))] := hD
  refine lv_aload_n hx hb dX8_erase_15 rfl (lv_at hl 1 rfl) ?_
  refine lv_iconst (v := 0) hx hb dX8_erase_16 (by decide) ?_
  refine va_put (D := D) (ci := 8) (v := .int 0) (ty := .int) (C := RX8) (T := TX8) (N := 22) hx hb hts in_X8 tyX8 tyX8_ok nmX8 hown hK.1 hP hD hS 0 rfl rfl 3 (by decide) (hts _ mk_26) (fun _ h9 => h9) rfl (by decide +kernel) rfl rfl (Nat.le_of_ble_eq_true rfl) dX8_erase_17 (fun H locs hP hD hS => ?_)
  have hP : va_P D vwCl [(hm, .inr (8, [.int 0, .ref hby, .int 0, .int 0, .long mbt, .int mrg, .int mct, .int mvl, .int mpl, .int mcl, .int mrw, .int mqt, .int mlv, .int mtl, .int mbe, .int mch, .ref hpb, .ref hwa, .ref hmn, .ref hcf, .ref hsa, .ref hro]))] H := hP
  have hD : va_D A [(hm, .inr (8, [.int 0, .ref hby, .int 0, .int 0, .long mbt, .int mrg, .int mct, .int mvl, .int mpl, .int mcl, .int mrw, .int mqt, .int mlv, .int mtl, .int mbe, .int mch, .ref hpb, .ref hwa, .ref hmn, .ref hcf, .ref hsa, .ref hro]))] := hD
  refine lv_iload_n hx hb dX8_erase_20 rfl (lv_at hl 0 rfl) ?_
  exact W.iret (v := msz) hx hb hr (fun t9 ht9 hW9 => ⟨⟨msz, (), rfl, rfl, by rw [ht9]; exact hP, hD⟩, hS.F ht9⟩) hS.2.2 dX8_erase_21
abbrev kw_X8_write : List Cond := Cond.code yX8_write cX8_write 1 none :: kW
set_option maxHeartbeats 4000000 in
set_option maxRecDepth 100000 in
theorem c_X8_write (l : Launch) (D : va_G) (cI cJ cZ : ClassId) (hm hby hpb hwa hmn hcf hsa hro : Nat) (mrf : Int32) (msz : Int32) (mbg : Int32) (mrg : Int32) (mct : Int32) (mvl : Int32) (mpl : Int32) (mcl : Int32) (mrw : Int32) (mqt : Int32) (mlv : Int32) (mtl : Int32) (mbe : Int32) (mch : Int32) (mbt : Int64) (hpz : Nat) : Met l yX8_write kw_X8_write ({ frames := 0, cells := 0, slots := 0, locals := 0 }) (va_Pc [.ref hm] (fun U => U.heap.size = hpz ∧ va_P D vwCl [(hm, .inr (8, [.int mrf, .ref hby, .int msz, .int mbg, .long mbt, .int mrg, .int mct, .int mvl, .int mpl, .int mcl, .int mrw, .int mqt, .int mlv, .int mtl, .int mbe, .int mch, .ref hpb, .ref hwa, .ref hmn, .ref hcf, .ref hsa, .ref hro]))] U.heap ∧ kK D cI cJ cZ U ∧ va_D (fun _ => True) [(hm, .inr (8, [.int mrf, .ref hby, .int msz, .int mbg, .long mbt, .int mrg, .int mct, .int mvl, .int mpl, .int mcl, .int mrw, .int mqt, .int mlv, .int mtl, .int mbe, .int mch, .ref hpb, .ref hwa, .ref hmn, .ref hcf, .ref hsa, .ref hro]))])) (va_Qv (fun (u : Unit) => True) (fun (u : Unit) (t : State) => va_P D vwCl [(hm, .inr (8, [.int 0, .ref hby, .int 0, .int 1, .long 0, .int 255, .int 24, .int mvl, .int mpl, .int mcl, .int mrw, .int mqt, .int mlv, .int mtl, .int mbe, .int mch, .ref hpb, .ref hwa, .ref hmn, .ref hcf, .ref hsa, .ref hro]))] t.heap ∧ va_D (va_A [(hm, .inr (8, [.int mrf, .ref hby, .int msz, .int mbg, .long mbt, .int mrg, .int mct, .int mvl, .int mpl, .int mcl, .int mrw, .int mqt, .int mlv, .int mtl, .int mbe, .int mch, .ref hpb, .ref hwa, .ref hmn, .ref hcf, .ref hsa, .ref hro]))] hpz) [(hm, .inr (8, [.int 0, .ref hby, .int 0, .int 1, .long 0, .int 255, .int 24, .int mvl, .int mpl, .int mcl, .int mrw, .int mqt, .int mlv, .int mtl, .int mbe, .int mch, .ref hpb, .ref hwa, .ref hmn, .ref hcf, .ref hsa, .ref hro]))]) (va_A [(hm, .inr (8, [.int mrf, .ref hby, .int msz, .int mbg, .long mbt, .int mrg, .int mct, .int mvl, .int mpl, .int mcl, .int mrw, .int mqt, .int mlv, .int mtl, .int mbe, .int mch, .ref hpb, .ref hwa, .ref hmn, .ref hcf, .ref hsa, .ref hro]))] hpz)) 0 0 (va_A [(hm, .inr (8, [.int mrf, .ref hby, .int msz, .int mbg, .long mbt, .int mrg, .int mct, .int mvl, .int mpl, .int mcl, .int mrw, .int mqt, .int mlv, .int mtl, .int mbe, .int mch, .ref hpb, .ref hwa, .ref hmn, .ref hcf, .ref hsa, .ref hro]))] hpz) := by
  refine Met.ofW (cc := cX8_write) (maxL := 1) (ret := none) (by decide) rfl ?_
  intro p e s m args below meth c s₁ B hml hv
  obtain ⟨rfl, hsz, hP, hK, hD0⟩ := hv
  have hx := B.exec
  have hb := B.bytes
  have hr := B.returns
  have hts := fun (w : Cond) (h : w ∈ kW) => atoms_spec (ws := kw_X8_write) B.pre w (List.mem_cons_of_mem _ h)
  have hown : s.vm.findClass RX8 = some m.cls := findClass_of_methodNamed B.named
  have hlocks := B.notSynchronized
  subst hsz
  have hD := hD0.self (sz := s.heap.size)
  generalize hAe : va_A [(hm, .inr (8, [.int mrf, .ref hby, .int msz, .int mbg, .long mbt, .int mrg, .int mct, .int mvl, .int mpl, .int mcl, .int mrw, .int mqt, .int mlv, .int mtl, .int mbe, .int mch, .ref hpb, .ref hwa, .ref hmn, .ref hcf, .ref hsa, .ref hro]))] s.heap.size = A at hD ⊢
  have hA : ∀ q : Nat, s.heap.size ≤ q → A q := fun q h => by rw [← hAe]; exact Or.inr h
  have hS : va_S A s.heap s.heap [] := va_S.rf
  have hP : va_P D vwCl [(hm, .inr (8, [.int mrf, .ref hby, .int msz, .int mbg, .long mbt, .int mrg, .int mct, .int mvl, .int mpl, .int mcl, .int mrw, .int mqt, .int mlv, .int mtl, .int mbe, .int mch, .ref hpb, .ref hwa, .ref hmn, .ref hcf, .ref hsa, .ref hro]))] s.heap := hP
  have hl := lv_entry ([.ref hm]) (n := 1) (Nat.le_of_ble_eq_true rfl)
  rw [lg_entry_eq]
  generalize (lg_sl ([.ref hm]) ++ List.replicate (1 - (lg_sl ([.ref hm])).length) Slot.unset).toArray = ls at hl ⊢
  have hl : lv_has ls 1 [(0, .ref hm)] := hl
  refine lv_aload_n hx hb dX8_write_0 rfl (lv_at hl 0 rfl) ?_
  refine lv_iconst (v := 0) hx hb dX8_write_1 (by decide) ?_
  refine va_put (D := D) (ci := 8) (v := .int 0) (ty := .int) (C := RX8) (T := TX8) (N := 22) hx hb hts in_X8 tyX8 tyX8_ok nmX8 hown hK.1 hP hD hS 0 rfl rfl 0 (by decide) (hts _ mk_24) (fun _ h9 => h9) rfl (by decide +kernel) rfl rfl (Nat.le_of_ble_eq_true rfl) dX8_write_2 (fun H locs hP hD hS => ?_)
  have hP : va_P D vwCl [(hm, .inr (8, [.int 0, .ref hby, .int msz, .int mbg, .long mbt, .int mrg, .int mct, .int mvl, .int mpl, .int mcl, .int mrw, .int mqt, .int mlv, .int mtl, .int mbe, .int mch, .ref hpb, .ref hwa, .ref hmn, .ref hcf, .ref hsa, .ref hro]))] H := hP
  have hD : va_D A [(hm, .inr (8, [.int 0, .ref hby, .int msz, .int mbg, .long mbt, .int mrg, .int mct, .int mvl, .int mpl, .int mcl, .int mrw, .int mqt, .int mlv, .int mtl, .int mbe, .int mch, .ref hpb, .ref hwa, .ref hmn, .ref hcf, .ref hsa, .ref hro]))] := hD
  refine lv_aload_n hx hb dX8_write_5 rfl (lv_at hl 0 rfl) ?_
  refine lv_iconst (v := 0) hx hb dX8_write_6 (by decide) ?_
  refine va_put (D := D) (ci := 8) (v := .int 0) (ty := .int) (C := RX8) (T := TX8) (N := 22) hx hb hts in_X8 tyX8 tyX8_ok nmX8 hown hK.1 hP hD hS 0 rfl rfl 2 (by decide) (hts _ mk_25) (fun _ h9 => h9) rfl (by decide +kernel) rfl rfl (Nat.le_of_ble_eq_true rfl) dX8_write_7 (fun H locs hP hD hS => ?_)
  have hP : va_P D vwCl [(hm, .inr (8, [.int 0, .ref hby, .int 0, .int mbg, .long mbt, .int mrg, .int mct, .int mvl, .int mpl, .int mcl, .int mrw, .int mqt, .int mlv, .int mtl, .int mbe, .int mch, .ref hpb, .ref hwa, .ref hmn, .ref hcf, .ref hsa, .ref hro]))] H := hP
  have hD : va_D A [(hm, .inr (8, [.int 0, .ref hby, .int 0, .int mbg, .long mbt, .int mrg, .int mct, .int mvl, .int mpl, .int mcl, .int mrw, .int mqt, .int mlv, .int mtl, .int mbe, .int mch, .ref hpb, .ref hwa, .ref hmn, .ref hcf, .ref hsa, .ref hro]))] := hD
  refine lv_aload_n hx hb dX8_write_10 rfl (lv_at hl 0 rfl) ?_
  refine lv_iconst (v := 1) hx hb dX8_write_11 (by decide) ?_
  refine va_put (D := D) (ci := 8) (v := .int 1) (ty := .int) (C := RX8) (T := TX8) (N := 22) hx hb hts in_X8 tyX8 tyX8_ok nmX8 hown hK.1 hP hD hS 0 rfl rfl 3 (by decide) (hts _ mk_26) (fun _ h9 => h9) rfl (by decide +kernel) rfl rfl (Nat.le_of_ble_eq_true rfl) dX8_write_12 (fun H locs hP hD hS => ?_)
  have hP : va_P D vwCl [(hm, .inr (8, [.int 0, .ref hby, .int 0, .int 1, .long mbt, .int mrg, .int mct, .int mvl, .int mpl, .int mcl, .int mrw, .int mqt, .int mlv, .int mtl, .int mbe, .int mch, .ref hpb, .ref hwa, .ref hmn, .ref hcf, .ref hsa, .ref hro]))] H := hP
  have hD : va_D A [(hm, .inr (8, [.int 0, .ref hby, .int 0, .int 1, .long mbt, .int mrg, .int mct, .int mvl, .int mpl, .int mcl, .int mrw, .int mqt, .int mlv, .int mtl, .int mbe, .int mch, .ref hpb, .ref hwa, .ref hmn, .ref hcf, .ref hsa, .ref hro]))] := hD
  refine lv_aload_n hx hb dX8_write_15 rfl (lv_at hl 0 rfl) ?_
  refine lv_lconst (v := 0) hx hb dX8_write_16 (by decide) ?_
  refine va_put (D := D) (ci := 8) (v := .long 0) (ty := .long) (C := RX8) (T := TX8) (N := 22) hx hb hts in_X8 tyX8 tyX8_ok nmX8 hown hK.1 hP hD hS 0 rfl rfl 4 (by decide) (hts _ mk_27) (fun _ h9 => h9) rfl (by decide +kernel) rfl rfl (Nat.le_of_ble_eq_true rfl) dX8_write_17 (fun H locs hP hD hS => ?_)
  have hP : va_P D vwCl [(hm, .inr (8, [.int 0, .ref hby, .int 0, .int 1, .long 0, .int mrg, .int mct, .int mvl, .int mpl, .int mcl, .int mrw, .int mqt, .int mlv, .int mtl, .int mbe, .int mch, .ref hpb, .ref hwa, .ref hmn, .ref hcf, .ref hsa, .ref hro]))] H := hP
  have hD : va_D A [(hm, .inr (8, [.int 0, .ref hby, .int 0, .int 1, .long 0, .int mrg, .int mct, .int mvl, .int mpl, .int mcl, .int mrw, .int mqt, .int mlv, .int mtl, .int mbe, .int mch, .ref hpb, .ref hwa, .ref hmn, .ref hcf, .ref hsa, .ref hro]))] := hD
  refine lv_aload_n hx hb dX8_write_20 rfl (lv_at hl 0 rfl) ?_
  refine lv_sipush (v := 255) hx hb dX8_write_21 (by decide) ?_
  refine va_put (D := D) (ci := 8) (v := .int 255) (ty := .int) (C := RX8) (T := TX8) (N := 22) hx hb hts in_X8 tyX8 tyX8_ok nmX8 hown hK.1 hP hD hS 0 rfl rfl 5 (by decide) (hts _ mk_28) (fun _ h9 => h9) rfl (by decide +kernel) rfl rfl (Nat.le_of_ble_eq_true rfl) dX8_write_24 (fun H locs hP hD hS => ?_)
  have hP : va_P D vwCl [(hm, .inr (8, [.int 0, .ref hby, .int 0, .int 1, .long 0, .int 255, .int mct, .int mvl, .int mpl, .int mcl, .int mrw, .int mqt, .int mlv, .int mtl, .int mbe, .int mch, .ref hpb, .ref hwa, .ref hmn, .ref hcf, .ref hsa, .ref hro]))] H := hP
  have hD : va_D A [(hm, .inr (8, [.int 0, .ref hby, .int 0, .int 1, .long 0, .int 255, .int mct, .int mvl, .int mpl, .int mcl, .int mrw, .int mqt, .int mlv, .int mtl, .int mbe, .int mch, .ref hpb, .ref hwa, .ref hmn, .ref hcf, .ref hsa, .ref hro]))] := hD
  refine lv_aload_n hx hb dX8_write_27 rfl (lv_at hl 0 rfl) ?_
  refine lv_bipush (v := 24) hx hb dX8_write_28 (by decide) ?_
  refine va_put (D := D) (ci := 8) (v := .int 24) (ty := .int) (C := RX8) (T := TX8) (N := 22) hx hb hts in_X8 tyX8 tyX8_ok nmX8 hown hK.1 hP hD hS 0 rfl rfl 6 (by decide) (hts _ mk_29) (fun _ h9 => h9) rfl (by decide +kernel) rfl rfl (Nat.le_of_ble_eq_true rfl) dX8_write_30 (fun H locs hP hD hS => ?_)
  have hP : va_P D vwCl [(hm, .inr (8, [.int 0, .ref hby, .int 0, .int 1, .long 0, .int 255, .int 24, .int mvl, .int mpl, .int mcl, .int mrw, .int mqt, .int mlv, .int mtl, .int mbe, .int mch, .ref hpb, .ref hwa, .ref hmn, .ref hcf, .ref hsa, .ref hro]))] H := hP
  have hD : va_D A [(hm, .inr (8, [.int 0, .ref hby, .int 0, .int 1, .long 0, .int 255, .int 24, .int mvl, .int mpl, .int mcl, .int mrw, .int mqt, .int mlv, .int mtl, .int mbe, .int mch, .ref hpb, .ref hwa, .ref hmn, .ref hcf, .ref hsa, .ref hro]))] := hD
  exact W.vret hx hb hr (fun t9 ht9 hW9 => ⟨⟨(), rfl, trivial, by rw [ht9]; exact hP, hD⟩, hS.F ht9⟩) hS.2.2 dX8_write_33
abbrev kw_X8_carry : List Cond := Cond.code yX8_carry cX8_carry 2 none :: kW
set_option maxHeartbeats 4000000 in
set_option maxRecDepth 100000 in
theorem lp_X8_carry_7 {p : Program} {l : Launch} {e : Env} {s : State} {m : MethodId} {args : Array Value} {below : List Frame} {meth : Method} {c : Code} {A : Nat → Prop} (D : va_G) (cI cJ cZ : ClassId) (hm hby hpb hwa hmn hcf hsa hro : Nat) (mrf : Int32) (msz : Int32) (mbg : Int32) (mrg : Int32) (mct : Int32) (mvl : Int32) (mpl : Int32) (mcl : Int32) (mrw : Int32) (mqt : Int32) (mlv : Int32) (mtl : Int32) (mbe : Int32) (mch : Int32) (mbt : Int64) (mby : Nat → Int32) (bsz : kB msz 0 600) (hx : p.tables.exec = Jvm.exec) (hb : c.code = cX8_carry) (hr : meth.sig.returnType = none) (hml : c.maxLocals = 2) (hown : s.vm.findClass RX8 = some m.cls) (hts : ∀ w ∈ kW, w.before args s = true) (hlocks : meth.locks = false) (hK : kK D cI cJ cZ s) (hA : ∀ q : Nat, s.heap.size ≤ q → A q) : ∀ n : Nat, ∀ (x1 : Int32) (mby2 : Nat → Int32), (x1.toInt + 1).toNat < n → (kB x1 (-1) 599) → (wCar (x1.toInt + 1).toNat mby2 = wCar msz.toInt.toNat mby) → ∀ (H : Heap) (locs : List Loc) (ls : Array Slot), va_P D vwCl [(hm, .inr (8, [.int mrf, .ref hby, .int msz, .int mbg, .long mbt, .int mrg, .int mct, .int mvl, .int mpl, .int mcl, .int mrw, .int mqt, .int mlv, .int mtl, .int mbe, .int mch, .ref hpb, .ref hwa, .ref hmn, .ref hcf, .ref hsa, .ref hro])), (hby, .inl (cI, 600, .inl mby2))] H → va_D A [(hm, .inr (8, [.int mrf, .ref hby, .int msz, .int mbg, .long mbt, .int mrg, .int mct, .int mvl, .int mpl, .int mcl, .int mrw, .int mqt, .int mlv, .int mtl, .int mbe, .int mch, .ref hpb, .ref hwa, .ref hmn, .ref hcf, .ref hsa, .ref hro])), (hby, .inl (cI, 600, .inl mby2))] → va_S A s.heap H locs → lv_has ls 2 [(0, .ref hm), (1, .int x1)] → W p l e (headSpec kw_X8_carry ({ frames := 0, cells := 0, slots := 0, locals := 0 })).room s m args below meth c H locs 0 0 (MQ below (va_Qv (fun (u : (Nat → Int32)) => (u = wCar msz.toInt.toNat mby)) (fun (u : (Nat → Int32)) (t : State) => va_P D vwCl [(hm, .inr (8, [.int mrf, .ref hby, .int msz, .int mbg, .long mbt, .int mrg, .int mct, .int mvl, .int mpl, .int mcl, .int mrw, .int mqt, .int mlv, .int mtl, .int mbe, .int mch, .ref hpb, .ref hwa, .ref hmn, .ref hcf, .ref hsa, .ref hro])), (hby, .inl (cI, 600, .inl u))] t.heap ∧ va_D A [(hm, .inr (8, [.int mrf, .ref hby, .int msz, .int mbg, .long mbt, .int mrg, .int mct, .int mvl, .int mpl, .int mcl, .int mrw, .int mqt, .int mlv, .int mtl, .int mbe, .int mch, .ref hpb, .ref hwa, .ref hmn, .ref hcf, .ref hsa, .ref hro])), (hby, .inl (cI, 600, .inl u))]) A) args s 0 0 A) (F0 m 7 ls []) := by
  intro n
  induction n with
  | zero => intro x1 mby2 hmeas; exact absurd hmeas (Nat.not_lt_zero _)
  | succ n ih =>
    intro x1 mby2 hmeas b1 hc H locs ls hP hD hS hl
    refine lv_iload_n hx hb dX8_carry_7 rfl (lv_at hl 1 rfl) ?_
    refine lv_if_lt (tgt := 36) hx hb dX8_carry_8 (by decide) (fun c8 => ?_) (fun c8 => ?_)
    · have c8x : kB x1 (-1) (-1) := kB_lt_l b1 kc_0 c8 (by decide)
      refine lv_iload_n hx hb dX8_carry_36 rfl (lv_at hl 1 rfl) ?_
      refine lv_if_lt (tgt := 50) hx hb dX8_carry_37 (by decide) (fun c37 => ?_) (fun c37 => ?_)
      · have pf_c : mby2 = wCar msz.toInt.toNat mby := (by rw [← hc, wCar_0 (by have := c8x.2; omega)])
        exact W.vret hx hb hr (fun t9 ht9 hW9 => ⟨⟨mby2, rfl, pf_c, by rw [ht9]; exact hP, hD⟩, hS.F ht9⟩) hS.2.2 dX8_carry_50
      · have c37n : 0 ≤ x1 := kN_lt c37
        have c37ny : kB x1 0 (-1) := kB_le_r kc_0 c8x c37n (by decide)
        exact absurd (Int.le_trans c37ny.1 c37ny.2) (by decide)
    · have c8n : 0 ≤ x1 := kN_lt c8
      have c8ny : kB x1 0 599 := kB_le_r kc_0 b1 c8n (by decide)
      refine lv_aload_n hx hb dX8_carry_11 rfl (lv_at hl 0 rfl) ?_
      refine va_get (D := D) (ci := 8) (v := .ref hby) (C := RX8) (T := TX8) (N := 22) hx hb hts in_X8 hown hK.1 hP 0 rfl rfl 1 (by decide) (hts _ mk_30) (fun _ h9 => h9) rfl dX8_carry_12 ?_
      refine lv_iload_n hx hb dX8_carry_15 rfl (lv_at hl 1 rfl) ?_
      refine va_iald hx hb hK.1 hP 1 0 rfl rfl (kB_in c8ny (by decide)) dX8_carry_16 ?_
      refine lv_topi (fun v16 e16 => ?_)
      refine lv_sipush (v := 255) hx hb dX8_carry_17 (by decide) ?_
      refine lv_icmp_ne (tgt := 36) hx hb dX8_carry_20 (by decide) (fun c20 => ?_) (fun c20 => ?_)
      · refine lv_iload_n hx hb dX8_carry_36 rfl (lv_at hl 1 rfl) ?_
        refine lv_if_lt (tgt := 50) hx hb dX8_carry_37 (by decide) (fun c37 => ?_) (fun c37 => ?_)
        · have c37x : kB x1 0 (-1) := kB_lt_l c8ny kc_0 c37 (by decide)
          exact absurd (Int.le_trans c37x.1 c37x.2) (by decide)
        · have c37n : 0 ≤ x1 := kN_lt c37
          refine lv_aload_n hx hb dX8_carry_40 rfl (lv_at hl 0 rfl) ?_
          refine va_get (D := D) (ci := 8) (v := .ref hby) (C := RX8) (T := TX8) (N := 22) hx hb hts in_X8 hown hK.1 hP 0 rfl rfl 1 (by decide) (hts _ mk_30) (fun _ h9 => h9) rfl dX8_carry_41 ?_
          refine lv_iload_n hx hb dX8_carry_44 rfl (lv_at hl 1 rfl) ?_
          refine lv_dup2_11 hx hb dX8_carry_45 rfl rfl ?_
          refine va_iald hx hb hK.1 hP 1 0 rfl rfl (kB_in c8ny (by decide)) dX8_carry_46 ?_
          refine lv_topi (fun v46 e46 => ?_)
          refine lv_iconst (v := 1) hx hb dX8_carry_47 (by decide) ?_
          refine lv_iadd hx hb dX8_carry_48 ?_
          refine lv_topi (fun v48 e48 => ?_)
          refine va_iast hx hb hK.1 hP hD hS 1 0 rfl rfl (kB_in c8ny (by decide)) dX8_carry_49 (fun H locs hP hD hS => ?_)
          have hP : va_P D vwCl [(hm, .inr (8, [.int mrf, .ref hby, .int msz, .int mbg, .long mbt, .int mrg, .int mct, .int mvl, .int mpl, .int mcl, .int mrw, .int mqt, .int mlv, .int mtl, .int mbe, .int mch, .ref hpb, .ref hwa, .ref hmn, .ref hcf, .ref hsa, .ref hro])), (hby, .inl (cI, 600, .inl (upd mby2 x1.toNatClampNeg v48)))] H := hP
          have hD : va_D A [(hm, .inr (8, [.int mrf, .ref hby, .int msz, .int mbg, .long mbt, .int mrg, .int mct, .int mvl, .int mpl, .int mcl, .int mrw, .int mqt, .int mlv, .int mtl, .int mbe, .int mch, .ref hpb, .ref hwa, .ref hmn, .ref hcf, .ref hsa, .ref hro])), (hby, .inl (cI, 600, .inl (upd mby2 x1.toNatClampNeg v48)))] := hD
          generalize hf49 : upd mby2 x1.toNatClampNeg v48 = f49 at hP hD
          have pf_c : f49 = wCar msz.toInt.toNat mby := (by rw [← hc, wCar_n c8ny.1 (by rw [← e16]; exact c20), ← hf49, e48, e46])
          exact W.vret hx hb hr (fun t9 ht9 hW9 => ⟨⟨f49, rfl, pf_c, by rw [ht9]; exact hP, hD⟩, hS.F ht9⟩) hS.2.2 dX8_carry_50
      · have c20x : kB v16 255 255 := kB_eq c20 kc_255
        refine lv_aload_n hx hb dX8_carry_23 rfl (lv_at hl 0 rfl) ?_
        refine va_get (D := D) (ci := 8) (v := .ref hby) (C := RX8) (T := TX8) (N := 22) hx hb hts in_X8 hown hK.1 hP 0 rfl rfl 1 (by decide) (hts _ mk_30) (fun _ h9 => h9) rfl dX8_carry_24 ?_
        refine lv_iload_n hx hb dX8_carry_27 rfl (lv_at hl 1 rfl) ?_
        refine lv_iconst (v := 0) hx hb dX8_carry_28 (by decide) ?_
        refine va_iast hx hb hK.1 hP hD hS 1 0 rfl rfl (kB_in c8ny (by decide)) dX8_carry_29 (fun H locs hP hD hS => ?_)
        have hP : va_P D vwCl [(hm, .inr (8, [.int mrf, .ref hby, .int msz, .int mbg, .long mbt, .int mrg, .int mct, .int mvl, .int mpl, .int mcl, .int mrw, .int mqt, .int mlv, .int mtl, .int mbe, .int mch, .ref hpb, .ref hwa, .ref hmn, .ref hcf, .ref hsa, .ref hro])), (hby, .inl (cI, 600, .inl (upd mby2 x1.toNatClampNeg 0)))] H := hP
        have hD : va_D A [(hm, .inr (8, [.int mrf, .ref hby, .int msz, .int mbg, .long mbt, .int mrg, .int mct, .int mvl, .int mpl, .int mcl, .int mrw, .int mqt, .int mlv, .int mtl, .int mbe, .int mch, .ref hpb, .ref hwa, .ref hmn, .ref hcf, .ref hsa, .ref hro])), (hby, .inl (cI, 600, .inl (upd mby2 x1.toNatClampNeg 0)))] := hD
        generalize hf29 : upd mby2 x1.toNatClampNeg 0 = f29 at hP hD
        obtain ⟨v30, e30⟩ : ∃ y : Int32, y = x1 + (-1) := ⟨_, rfl⟩
        refine lv_iinc (v := v30) (lv' := [(1, .int v30), (0, .ref hm)]) hx hb dX8_carry_30 hl (k := 1) rfl (by rw [e30]; rfl) (by decide) rfl (fun ls hl => ?_)
        have b30 : kB v30 (-1) 598 := kB_eq e30 (kB_add c8ny kc_m1 (by decide))
        have t30 : v30.toInt = x1.toInt + (-1) := by rw [e30]; exact kdec (kB_w c8ny (by decide) (by decide))
        refine lv_goto (tgt := 7) hx hb dX8_carry_33 (by decide) ?_
        exact ih v30 f29 (by have := b30.1; have := b30.2; have := c8ny.1; have := c8ny.2; omega) (kB_w b30 (by decide) (by decide)) (by rw [t30, show (x1.toInt + -1 + 1).toNat = x1.toInt.toNat by omega, ← hf29, ← wCar_255 c8ny.1 (by rw [← e16]; exact c20)]; exact hc) _ _ ls hP hD hS (lv_sub hl [1, 0] rfl)
set_option maxHeartbeats 4000000 in
set_option maxRecDepth 100000 in
theorem c_X8_carry (l : Launch) (D : va_G) (cI cJ cZ : ClassId) (hm hby hpb hwa hmn hcf hsa hro : Nat) (mrf : Int32) (msz : Int32) (mbg : Int32) (mrg : Int32) (mct : Int32) (mvl : Int32) (mpl : Int32) (mcl : Int32) (mrw : Int32) (mqt : Int32) (mlv : Int32) (mtl : Int32) (mbe : Int32) (mch : Int32) (mbt : Int64) (mby : Nat → Int32) (bsz : kB msz 0 600) (hpz : Nat) : Met l yX8_carry kw_X8_carry ({ frames := 0, cells := 0, slots := 0, locals := 0 }) (va_Pc [.ref hm] (fun U => U.heap.size = hpz ∧ va_P D vwCl [(hm, .inr (8, [.int mrf, .ref hby, .int msz, .int mbg, .long mbt, .int mrg, .int mct, .int mvl, .int mpl, .int mcl, .int mrw, .int mqt, .int mlv, .int mtl, .int mbe, .int mch, .ref hpb, .ref hwa, .ref hmn, .ref hcf, .ref hsa, .ref hro])), (hby, .inl (cI, 600, .inl mby))] U.heap ∧ kK D cI cJ cZ U ∧ va_D (fun _ => True) [(hm, .inr (8, [.int mrf, .ref hby, .int msz, .int mbg, .long mbt, .int mrg, .int mct, .int mvl, .int mpl, .int mcl, .int mrw, .int mqt, .int mlv, .int mtl, .int mbe, .int mch, .ref hpb, .ref hwa, .ref hmn, .ref hcf, .ref hsa, .ref hro])), (hby, .inl (cI, 600, .inl mby))])) (va_Qv (fun (u : (Nat → Int32)) => (u = wCar msz.toInt.toNat mby)) (fun (u : (Nat → Int32)) (t : State) => va_P D vwCl [(hm, .inr (8, [.int mrf, .ref hby, .int msz, .int mbg, .long mbt, .int mrg, .int mct, .int mvl, .int mpl, .int mcl, .int mrw, .int mqt, .int mlv, .int mtl, .int mbe, .int mch, .ref hpb, .ref hwa, .ref hmn, .ref hcf, .ref hsa, .ref hro])), (hby, .inl (cI, 600, .inl u))] t.heap ∧ va_D (va_A [(hm, .inr (8, [.int mrf, .ref hby, .int msz, .int mbg, .long mbt, .int mrg, .int mct, .int mvl, .int mpl, .int mcl, .int mrw, .int mqt, .int mlv, .int mtl, .int mbe, .int mch, .ref hpb, .ref hwa, .ref hmn, .ref hcf, .ref hsa, .ref hro])), (hby, .inl (cI, 600, .inl mby))] hpz) [(hm, .inr (8, [.int mrf, .ref hby, .int msz, .int mbg, .long mbt, .int mrg, .int mct, .int mvl, .int mpl, .int mcl, .int mrw, .int mqt, .int mlv, .int mtl, .int mbe, .int mch, .ref hpb, .ref hwa, .ref hmn, .ref hcf, .ref hsa, .ref hro])), (hby, .inl (cI, 600, .inl u))]) (va_A [(hm, .inr (8, [.int mrf, .ref hby, .int msz, .int mbg, .long mbt, .int mrg, .int mct, .int mvl, .int mpl, .int mcl, .int mrw, .int mqt, .int mlv, .int mtl, .int mbe, .int mch, .ref hpb, .ref hwa, .ref hmn, .ref hcf, .ref hsa, .ref hro])), (hby, .inl (cI, 600, .inl mby))] hpz)) 0 0 (va_A [(hm, .inr (8, [.int mrf, .ref hby, .int msz, .int mbg, .long mbt, .int mrg, .int mct, .int mvl, .int mpl, .int mcl, .int mrw, .int mqt, .int mlv, .int mtl, .int mbe, .int mch, .ref hpb, .ref hwa, .ref hmn, .ref hcf, .ref hsa, .ref hro])), (hby, .inl (cI, 600, .inl mby))] hpz) := by
  refine Met.ofW (cc := cX8_carry) (maxL := 2) (ret := none) (by decide) rfl ?_
  intro p e s m args below meth c s₁ B hml hv
  obtain ⟨rfl, hsz, hP, hK, hD0⟩ := hv
  have hx := B.exec
  have hb := B.bytes
  have hr := B.returns
  have hts := fun (w : Cond) (h : w ∈ kW) => atoms_spec (ws := kw_X8_carry) B.pre w (List.mem_cons_of_mem _ h)
  have hown : s.vm.findClass RX8 = some m.cls := findClass_of_methodNamed B.named
  have hlocks := B.notSynchronized
  subst hsz
  have hD := hD0.self (sz := s.heap.size)
  generalize hAe : va_A [(hm, .inr (8, [.int mrf, .ref hby, .int msz, .int mbg, .long mbt, .int mrg, .int mct, .int mvl, .int mpl, .int mcl, .int mrw, .int mqt, .int mlv, .int mtl, .int mbe, .int mch, .ref hpb, .ref hwa, .ref hmn, .ref hcf, .ref hsa, .ref hro])), (hby, .inl (cI, 600, .inl mby))] s.heap.size = A at hD ⊢
  have hA : ∀ q : Nat, s.heap.size ≤ q → A q := fun q h => by rw [← hAe]; exact Or.inr h
  have hS : va_S A s.heap s.heap [] := va_S.rf
  have hP : va_P D vwCl [(hm, .inr (8, [.int mrf, .ref hby, .int msz, .int mbg, .long mbt, .int mrg, .int mct, .int mvl, .int mpl, .int mcl, .int mrw, .int mqt, .int mlv, .int mtl, .int mbe, .int mch, .ref hpb, .ref hwa, .ref hmn, .ref hcf, .ref hsa, .ref hro])), (hby, .inl (cI, 600, .inl mby))] s.heap := hP
  have hl := lv_entry ([.ref hm]) (n := 2) (Nat.le_of_ble_eq_true rfl)
  rw [lg_entry_eq]
  generalize (lg_sl ([.ref hm]) ++ List.replicate (2 - (lg_sl ([.ref hm])).length) Slot.unset).toArray = ls at hl ⊢
  have hl : lv_has ls 2 [(0, .ref hm)] := hl
  refine lv_aload_n hx hb dX8_carry_0 rfl (lv_at hl 0 rfl) ?_
  refine va_get (D := D) (ci := 8) (v := .int msz) (C := RX8) (T := TX8) (N := 22) hx hb hts in_X8 hown hK.1 hP 0 rfl rfl 2 (by decide) (hts _ mk_25) (fun _ h9 => h9) rfl dX8_carry_1 ?_
  refine lv_iconst (v := 1) hx hb dX8_carry_4 (by decide) ?_
  refine lv_isub hx hb dX8_carry_5 ?_
  refine lv_topi (fun v5 e5 => ?_)
  have b5 : kB v5 (-1) 599 := kB_eq e5 (kB_sub bsz kc_1 (by decide))
  have X5 : v5.toInt = msz.toInt - 1 := by rw [e5]; exact kdec1 (kB_w bsz (by decide) (by decide))
  refine lv_istore_n (lv' := [(1, .int v5), (0, .ref hm)]) hx hb dX8_carry_6 rfl hl (by decide) rfl (fun ls hl => ?_)
  exact lp_X8_carry_7 D cI cJ cZ hm hby hpb hwa hmn hcf hsa hro mrf msz mbg mrg mct mvl mpl mcl mrw mqt mlv mtl mbe mch mbt mby bsz hx hb hr hml hown hts hlocks hK hA ((v5.toInt + 1).toNat + 1) v5 mby (Nat.lt_succ_self _) b5 (by rw [X5, show msz.toInt - 1 + 1 = msz.toInt by omega]) _ _ ls hP hD hS (lv_sub hl [1, 0] rfl)
abbrev kw_X8_append : List Cond := Cond.code yX8_append cX8_append 3 none :: kW
set_option maxHeartbeats 4000000 in
set_option maxRecDepth 100000 in
theorem c_X8_append (l : Launch) (D : va_G) (cI cJ cZ : ClassId) (hm hby hpb hwa hmn hcf hsa hro : Nat) (mrf : Int32) (msz : Int32) (mbg : Int32) (mrg : Int32) (mct : Int32) (mvl : Int32) (mpl : Int32) (mcl : Int32) (mrw : Int32) (mqt : Int32) (mlv : Int32) (mtl : Int32) (mbe : Int32) (mch : Int32) (mbt : Int64) (mby : Nat → Int32) (vv : Int64) (V : Nat) (bsz : kB msz 0 599) (hV : vv = lN V) (hV2 : V < 4294967296) (hpz : Nat) : Met l yX8_append kw_X8_append ({ frames := 0, cells := 0, slots := 0, locals := 0 }) (va_Pc [.ref hm, .long vv] (fun U => U.heap.size = hpz ∧ va_P D vwCl [(hm, .inr (8, [.int mrf, .ref hby, .int msz, .int mbg, .long mbt, .int mrg, .int mct, .int mvl, .int mpl, .int mcl, .int mrw, .int mqt, .int mlv, .int mtl, .int mbe, .int mch, .ref hpb, .ref hwa, .ref hmn, .ref hcf, .ref hsa, .ref hro])), (hby, .inl (cI, 600, .inl mby))] U.heap ∧ kK D cI cJ cZ U ∧ va_D (fun _ => True) [(hm, .inr (8, [.int mrf, .ref hby, .int msz, .int mbg, .long mbt, .int mrg, .int mct, .int mvl, .int mpl, .int mcl, .int mrw, .int mqt, .int mlv, .int mtl, .int mbe, .int mch, .ref hpb, .ref hwa, .ref hmn, .ref hcf, .ref hsa, .ref hro])), (hby, .inl (cI, 600, .inl mby))])) (va_Qv (fun (u : Int32 × (Nat → Int32)) => (kB u.1 0 600) ∧ (u.1.toInt = msz.toInt + 1) ∧ (u.2 = upd mby msz.toInt.toNat (nI (V / 16777216)))) (fun (u : Int32 × (Nat → Int32)) (t : State) => va_P D vwCl [(hm, .inr (8, [.int mrf, .ref hby, .int u.1, .int mbg, .long mbt, .int mrg, .int mct, .int mvl, .int mpl, .int mcl, .int mrw, .int mqt, .int mlv, .int mtl, .int mbe, .int mch, .ref hpb, .ref hwa, .ref hmn, .ref hcf, .ref hsa, .ref hro])), (hby, .inl (cI, 600, .inl u.2))] t.heap ∧ va_D (va_A [(hm, .inr (8, [.int mrf, .ref hby, .int msz, .int mbg, .long mbt, .int mrg, .int mct, .int mvl, .int mpl, .int mcl, .int mrw, .int mqt, .int mlv, .int mtl, .int mbe, .int mch, .ref hpb, .ref hwa, .ref hmn, .ref hcf, .ref hsa, .ref hro])), (hby, .inl (cI, 600, .inl mby))] hpz) [(hm, .inr (8, [.int mrf, .ref hby, .int u.1, .int mbg, .long mbt, .int mrg, .int mct, .int mvl, .int mpl, .int mcl, .int mrw, .int mqt, .int mlv, .int mtl, .int mbe, .int mch, .ref hpb, .ref hwa, .ref hmn, .ref hcf, .ref hsa, .ref hro])), (hby, .inl (cI, 600, .inl u.2))]) (va_A [(hm, .inr (8, [.int mrf, .ref hby, .int msz, .int mbg, .long mbt, .int mrg, .int mct, .int mvl, .int mpl, .int mcl, .int mrw, .int mqt, .int mlv, .int mtl, .int mbe, .int mch, .ref hpb, .ref hwa, .ref hmn, .ref hcf, .ref hsa, .ref hro])), (hby, .inl (cI, 600, .inl mby))] hpz)) 0 0 (va_A [(hm, .inr (8, [.int mrf, .ref hby, .int msz, .int mbg, .long mbt, .int mrg, .int mct, .int mvl, .int mpl, .int mcl, .int mrw, .int mqt, .int mlv, .int mtl, .int mbe, .int mch, .ref hpb, .ref hwa, .ref hmn, .ref hcf, .ref hsa, .ref hro])), (hby, .inl (cI, 600, .inl mby))] hpz) := by
  refine Met.ofW (cc := cX8_append) (maxL := 3) (ret := none) (by decide) rfl ?_
  intro p e s m args below meth c s₁ B hml hv
  obtain ⟨rfl, hsz, hP, hK, hD0⟩ := hv
  have hx := B.exec
  have hb := B.bytes
  have hr := B.returns
  have hts := fun (w : Cond) (h : w ∈ kW) => atoms_spec (ws := kw_X8_append) B.pre w (List.mem_cons_of_mem _ h)
  have hown : s.vm.findClass RX8 = some m.cls := findClass_of_methodNamed B.named
  have hlocks := B.notSynchronized
  subst hsz
  have hD := hD0.self (sz := s.heap.size)
  generalize hAe : va_A [(hm, .inr (8, [.int mrf, .ref hby, .int msz, .int mbg, .long mbt, .int mrg, .int mct, .int mvl, .int mpl, .int mcl, .int mrw, .int mqt, .int mlv, .int mtl, .int mbe, .int mch, .ref hpb, .ref hwa, .ref hmn, .ref hcf, .ref hsa, .ref hro])), (hby, .inl (cI, 600, .inl mby))] s.heap.size = A at hD ⊢
  have hA : ∀ q : Nat, s.heap.size ≤ q → A q := fun q h => by rw [← hAe]; exact Or.inr h
  have hS : va_S A s.heap s.heap [] := va_S.rf
  have hP : va_P D vwCl [(hm, .inr (8, [.int mrf, .ref hby, .int msz, .int mbg, .long mbt, .int mrg, .int mct, .int mvl, .int mpl, .int mcl, .int mrw, .int mqt, .int mlv, .int mtl, .int mbe, .int mch, .ref hpb, .ref hwa, .ref hmn, .ref hcf, .ref hsa, .ref hro])), (hby, .inl (cI, 600, .inl mby))] s.heap := hP
  have hl := lv_entry ([.ref hm, .long vv]) (n := 3) (Nat.le_of_ble_eq_true rfl)
  rw [lg_entry_eq]
  generalize (lg_sl ([.ref hm, .long vv]) ++ List.replicate (3 - (lg_sl ([.ref hm, .long vv])).length) Slot.unset).toArray = ls at hl ⊢
  have hl : lv_has ls 3 [(0, .ref hm), (1, .long vv)] := hl
  refine lv_aload_n hx hb dX8_append_0 rfl (lv_at hl 0 rfl) ?_
  refine va_get (D := D) (ci := 8) (v := .ref hby) (C := RX8) (T := TX8) (N := 22) hx hb hts in_X8 hown hK.1 hP 0 rfl rfl 1 (by decide) (hts _ mk_30) (fun _ h9 => h9) rfl dX8_append_1 ?_
  refine lv_aload_n hx hb dX8_append_4 rfl (lv_at hl 0 rfl) ?_
  refine va_get (D := D) (ci := 8) (v := .int msz) (C := RX8) (T := TX8) (N := 22) hx hb hts in_X8 hown hK.1 hP 0 rfl rfl 2 (by decide) (hts _ mk_25) (fun _ h9 => h9) rfl dX8_append_5 ?_
  refine lv_lload_n hx hb dX8_append_8 rfl (lv_at hl 1 rfl) ?_
  refine lv_bipush (v := 24) hx hb dX8_append_9 (by decide) ?_
  refine lv_lshr hx hb dX8_append_11 rfl ?_
  refine lv_topl (fun v11 e11 => ?_)
  refine lv_ldc2 (v := 255) hx hb hown (hts _ mk_31) dX8_append_12 ?_
  refine lv_land hx hb dX8_append_15 ?_
  refine lv_topl (fun v15 e15 => ?_)
  have V11 : v11 = lN (V / 16777216) := by rw [e11, hV]; exact pf_shr (d := 24) (by decide) (by omega)
  have V15 : v15 = lN (V / 16777216 % 256) := by rw [e15, V11]; exact lM_and (k := 8) (p := 256) (by decide) (by decide) (by decide) (by omega)
  refine lv_l2i hx hb dX8_append_16 rfl ?_
  refine lv_topi (fun v16 e16 => ?_)
  have V16 : v16 = nI (V / 16777216) := by rw [e16, V15, lN_i, Nat.mod_eq_of_lt (by omega)]
  refine va_iast hx hb hK.1 hP hD hS 1 0 rfl rfl (kB_in bsz (by decide)) dX8_append_17 (fun H locs hP hD hS => ?_)
  have hP : va_P D vwCl [(hm, .inr (8, [.int mrf, .ref hby, .int msz, .int mbg, .long mbt, .int mrg, .int mct, .int mvl, .int mpl, .int mcl, .int mrw, .int mqt, .int mlv, .int mtl, .int mbe, .int mch, .ref hpb, .ref hwa, .ref hmn, .ref hcf, .ref hsa, .ref hro])), (hby, .inl (cI, 600, .inl (upd mby msz.toNatClampNeg v16)))] H := hP
  have hD : va_D A [(hm, .inr (8, [.int mrf, .ref hby, .int msz, .int mbg, .long mbt, .int mrg, .int mct, .int mvl, .int mpl, .int mcl, .int mrw, .int mqt, .int mlv, .int mtl, .int mbe, .int mch, .ref hpb, .ref hwa, .ref hmn, .ref hcf, .ref hsa, .ref hro])), (hby, .inl (cI, 600, .inl (upd mby msz.toNatClampNeg v16)))] := hD
  generalize hf17 : upd mby msz.toNatClampNeg v16 = f17 at hP hD
  refine lv_aload_n hx hb dX8_append_18 rfl (lv_at hl 0 rfl) ?_
  refine lv_dup hx hb dX8_append_19 rfl ?_
  refine va_get (D := D) (ci := 8) (v := .int msz) (C := RX8) (T := TX8) (N := 22) hx hb hts in_X8 hown hK.1 hP 0 rfl rfl 2 (by decide) (hts _ mk_25) (fun _ h9 => h9) rfl dX8_append_20 ?_
  refine lv_iconst (v := 1) hx hb dX8_append_23 (by decide) ?_
  refine lv_iadd hx hb dX8_append_24 ?_
  refine lv_topi (fun v24 e24 => ?_)
  have b24 : kB v24 1 600 := kB_eq e24 (kB_add bsz kc_1 (by decide))
  refine va_put (D := D) (ci := 8) (v := .int v24) (ty := .int) (C := RX8) (T := TX8) (N := 22) hx hb hts in_X8 tyX8 tyX8_ok nmX8 hown hK.1 hP hD hS 0 rfl rfl 2 (by decide) (hts _ mk_25) (fun _ h9 => h9) rfl (by decide +kernel) rfl rfl (Nat.le_of_ble_eq_true rfl) dX8_append_25 (fun H locs hP hD hS => ?_)
  have hP : va_P D vwCl [(hm, .inr (8, [.int mrf, .ref hby, .int v24, .int mbg, .long mbt, .int mrg, .int mct, .int mvl, .int mpl, .int mcl, .int mrw, .int mqt, .int mlv, .int mtl, .int mbe, .int mch, .ref hpb, .ref hwa, .ref hmn, .ref hcf, .ref hsa, .ref hro])), (hby, .inl (cI, 600, .inl f17))] H := hP
  have hD : va_D A [(hm, .inr (8, [.int mrf, .ref hby, .int v24, .int mbg, .long mbt, .int mrg, .int mct, .int mvl, .int mpl, .int mcl, .int mrw, .int mqt, .int mlv, .int mtl, .int mbe, .int mch, .ref hpb, .ref hwa, .ref hmn, .ref hcf, .ref hsa, .ref hro])), (hby, .inl (cI, 600, .inl f17))] := hD
  have pf_b : kB v24 0 600 := (kB_w b24 (by decide) (by decide))
  have pf_x : v24.toInt = msz.toInt + 1 := (by rw [e24]; exact kinc (kB_w bsz (by decide) (by decide)))
  have pf_y : f17 = upd mby msz.toInt.toNat (nI (V / 16777216)) := (by rw [← hf17, V16]; rfl)
  exact W.vret hx hb hr (fun t9 ht9 hW9 => ⟨⟨(v24, f17), rfl, ⟨pf_b, pf_x, pf_y⟩, by rw [ht9]; exact hP, hD⟩, hS.F ht9⟩) hS.2.2 dX8_append_28
abbrev kw_X8_writeBit : List Cond := Cond.code yX8_writeBit cX8_writeBit 4 none :: kW
set_option maxHeartbeats 4000000 in
set_option maxRecDepth 100000 in
theorem lp_X8_writeBit_52 {p : Program} {l : Launch} {e : Env} {s : State} {m : MethodId} {args : Array Value} {below : List Frame} {meth : Method} {c : Code} {A : Nat → Prop} (D : va_G) (cI cJ cZ : ClassId) (hm hby hpb hwa hmn hcf hsa hro : Nat) (mrf : Int32) (msz : Int32) (mbg : Int32) (mrg : Int32) (mct : Int32) (mvl : Int32) (mpl : Int32) (mcl : Int32) (mrw : Int32) (mqt : Int32) (mlv : Int32) (mtl : Int32) (mbe : Int32) (mch : Int32) (mbt : Int64) (mby : Nat → Int32) (pp : Int32) (bt : Int32) (B : Nat) (brg : kB mrg 128 255) (bp : kB pp 0 255) (bsz : kB msz 0 592) (bct : kB mct 1 24) (nf : kNF mct.toInt msz.toInt) (hB : mbt = lN B) (hB2 : B < 4294967296) (hx : p.tables.exec = Jvm.exec) (hb : c.code = cX8_writeBit) (hr : meth.sig.returnType = none) (hml : c.maxLocals = 4) (hown : s.vm.findClass RX8 = some m.cls) (hts : ∀ w ∈ kW, w.before args s = true) (hlocks : meth.locks = false) (hK : kK D cI cJ cZ s) (hA : ∀ q : Nat, s.heap.size ≤ q → A q) : ∀ n : Nat, ∀ (msz2 : Int32) (mbt2 : Int64) (mrg2 : Int32) (mct2 : Int32) (mby2 : Nat → Int32) (B2 : Nat), (128 - mrg2.toInt).toNat < n → (kB mrg2 1 255) → (kB msz2 0 600) → (kB mct2 1 24) → (kNF mct2.toInt msz2.toInt) → (krn mrg2.toInt = krn (kr1 pp.toInt bt.toInt mrg.toInt)) → (kdl mrg2.toInt + (8 * msz2.toInt - mct2.toInt) = 8 * msz.toInt - mct.toInt + kdl (kr1 pp.toInt bt.toInt mrg.toInt)) → (mbt2 = lN B2) → (B2 < 4294967296) → (wIt (kdl mrg2.toInt).toNat (mct2.toInt, msz2.toInt, B2, mby2) = wIt (kdl (kr1 pp.toInt bt.toInt mrg.toInt)).toNat (mct.toInt, msz.toInt, wB1 pp.toInt bt.toInt mrg.toInt B, mby)) → ∀ (H : Heap) (locs : List Loc) (ls : Array Slot), va_P D vwCl [(hm, .inr (8, [.int mrf, .ref hby, .int msz2, .int mbg, .long mbt2, .int mrg2, .int mct2, .int mvl, .int mpl, .int mcl, .int mrw, .int mqt, .int mlv, .int mtl, .int mbe, .int mch, .ref hpb, .ref hwa, .ref hmn, .ref hcf, .ref hsa, .ref hro])), (hby, .inl (cI, 600, .inl mby2))] H → va_D A [(hm, .inr (8, [.int mrf, .ref hby, .int msz2, .int mbg, .long mbt2, .int mrg2, .int mct2, .int mvl, .int mpl, .int mcl, .int mrw, .int mqt, .int mlv, .int mtl, .int mbe, .int mch, .ref hpb, .ref hwa, .ref hmn, .ref hcf, .ref hsa, .ref hro])), (hby, .inl (cI, 600, .inl mby2))] → va_S A s.heap H locs → lv_has ls 4 [(0, .ref hm)] → W p l e (headSpec kw_X8_writeBit ({ frames := 1, cells := 0, slots := 0, locals := 22 })).room s m args below meth c H locs 0 0 (MQ below (va_Qv (fun (u : Int32 × Int64 × Int32 × Int32 × (Nat → Int32)) => (kB u.2.2.1 128 255) ∧ (kB u.1 0 600) ∧ (kB u.2.2.2.1 1 24) ∧ (kNF u.2.2.2.1.toInt u.1.toInt) ∧ (u.2.2.1.toInt = krn (kr1 pp.toInt bt.toInt mrg.toInt)) ∧ (8 * u.1.toInt - u.2.2.2.1.toInt = 8 * msz.toInt - mct.toInt + kdl (kr1 pp.toInt bt.toInt mrg.toInt)) ∧ (u.2.1 = lN (wIt (kdl (kr1 pp.toInt bt.toInt mrg.toInt)).toNat (mct.toInt, msz.toInt, wB1 pp.toInt bt.toInt mrg.toInt B, mby)).2.2.1) ∧ (u.2.2.2.1.toInt = (wIt (kdl (kr1 pp.toInt bt.toInt mrg.toInt)).toNat (mct.toInt, msz.toInt, wB1 pp.toInt bt.toInt mrg.toInt B, mby)).1) ∧ (u.1.toInt = (wIt (kdl (kr1 pp.toInt bt.toInt mrg.toInt)).toNat (mct.toInt, msz.toInt, wB1 pp.toInt bt.toInt mrg.toInt B, mby)).2.1) ∧ (u.2.2.2.2 = (wIt (kdl (kr1 pp.toInt bt.toInt mrg.toInt)).toNat (mct.toInt, msz.toInt, wB1 pp.toInt bt.toInt mrg.toInt B, mby)).2.2.2)) (fun (u : Int32 × Int64 × Int32 × Int32 × (Nat → Int32)) (t : State) => va_P D vwCl [(hm, .inr (8, [.int mrf, .ref hby, .int u.1, .int mbg, .long u.2.1, .int u.2.2.1, .int u.2.2.2.1, .int mvl, .int mpl, .int mcl, .int mrw, .int mqt, .int mlv, .int mtl, .int mbe, .int mch, .ref hpb, .ref hwa, .ref hmn, .ref hcf, .ref hsa, .ref hro])), (hby, .inl (cI, 600, .inl u.2.2.2.2))] t.heap ∧ va_D A [(hm, .inr (8, [.int mrf, .ref hby, .int u.1, .int mbg, .long u.2.1, .int u.2.2.1, .int u.2.2.2.1, .int mvl, .int mpl, .int mcl, .int mrw, .int mqt, .int mlv, .int mtl, .int mbe, .int mch, .ref hpb, .ref hwa, .ref hmn, .ref hcf, .ref hsa, .ref hro])), (hby, .inl (cI, 600, .inl u.2.2.2.2))]) A) args s 0 0 A) (F0 m 52 ls []) := by
  intro n
  induction n with
  | zero => intro msz2 mbt2 mrg2 mct2 mby2 B2 hmeas; exact absurd hmeas (Nat.not_lt_zero _)
  | succ n ih =>
    intro msz2 mbt2 mrg2 mct2 mby2 B2 hmeas brg2 bsz2 bct2 nf2 kr ph hb2 hb3 hit H locs ls hP hD hS hl
    refine lv_aload_n hx hb dX8_writeBit_52 rfl (lv_at hl 0 rfl) ?_
    refine va_get (D := D) (ci := 8) (v := .int mrg2) (C := RX8) (T := TX8) (N := 22) hx hb hts in_X8 hown hK.1 hP 0 rfl rfl 5 (by decide) (hts _ mk_28) (fun _ h9 => h9) rfl dX8_writeBit_53 ?_
    refine lv_sipush (v := 128) hx hb dX8_writeBit_56 (by decide) ?_
    refine lv_icmp_ge (tgt := 149) hx hb dX8_writeBit_59 (by decide) (fun c59 => ?_) (fun c59 => ?_)
    · have c59y : kB mrg2 128 255 := kB_le_r kc_128 brg2 c59 (by decide)
      have E1 := krn_0 c59y.1
      have E2 := kdl_0 c59y.1
      rw [wIt_0 c59y.1] at hit
      have pf_r_ : mrg2.toInt = krn (kr1 pp.toInt bt.toInt mrg.toInt) := (by omega)
      have pf_p : 8 * msz2.toInt - mct2.toInt = 8 * msz.toInt - mct.toInt + kdl (kr1 pp.toInt bt.toInt mrg.toInt) := (by omega)
      have pf_e1 : mbt2 = lN (wIt (kdl (kr1 pp.toInt bt.toInt mrg.toInt)).toNat (mct.toInt, msz.toInt, wB1 pp.toInt bt.toInt mrg.toInt B, mby)).2.2.1 := (by rw [← hit]; exact hb2)
      have pf_e2 : mct2.toInt = (wIt (kdl (kr1 pp.toInt bt.toInt mrg.toInt)).toNat (mct.toInt, msz.toInt, wB1 pp.toInt bt.toInt mrg.toInt B, mby)).1 := (by rw [← hit])
      have pf_e3 : msz2.toInt = (wIt (kdl (kr1 pp.toInt bt.toInt mrg.toInt)).toNat (mct.toInt, msz.toInt, wB1 pp.toInt bt.toInt mrg.toInt B, mby)).2.1 := (by rw [← hit])
      have pf_e4 : mby2 = (wIt (kdl (kr1 pp.toInt bt.toInt mrg.toInt)).toNat (mct.toInt, msz.toInt, wB1 pp.toInt bt.toInt mrg.toInt B, mby)).2.2.2 := (by rw [← hit])
      exact W.vret hx hb hr (fun t9 ht9 hW9 => ⟨⟨(msz2, mbt2, mrg2, mct2, mby2), rfl, ⟨c59y, bsz2, bct2, nf2, pf_r_, pf_p, pf_e1, pf_e2, pf_e3, pf_e4⟩, by rw [ht9]; exact hP, hD⟩, hS.F ht9⟩) hS.2.2 dX8_writeBit_149
    · have c59n : mrg2 < 128 := kN_le c59
      have c59nx : kB mrg2 1 127 := kB_lt_l brg2 kc_128 c59n (by decide)
      refine lv_aload_n hx hb dX8_writeBit_62 rfl (lv_at hl 0 rfl) ?_
      refine lv_iconst (v := 2) hx hb dX8_writeBit_63 (by decide) ?_
      refine lv_aload_n hx hb dX8_writeBit_64 rfl (lv_at hl 0 rfl) ?_
      refine va_get (D := D) (ci := 8) (v := .int mrg2) (C := RX8) (T := TX8) (N := 22) hx hb hts in_X8 hown hK.1 hP 0 rfl rfl 5 (by decide) (hts _ mk_28) (fun _ h9 => h9) rfl dX8_writeBit_65 ?_
      refine lv_imul hx hb dX8_writeBit_68 ?_
      refine lv_topi (fun v68 e68 => ?_)
      have b68 : kB v68 2 254 := kB_eq e68 (kB_cmul kc_2 c59nx (by decide))
      have K68 : v68.toInt = 2 * mrg2.toInt := by rw [e68]; exact kdbl2 (kB_w brg2 (by decide) (by decide))
      have D68 := kdl_dbl (r := mrg2.toInt) brg2.1 (by have := c59nx.2; omega)
      have N68 := krn_dbl (r := mrg2.toInt) brg2.1 (by have := c59nx.2; omega)
      have Y68 := (kdl_le (kr1 pp.toInt bt.toInt mrg.toInt)).2
      have Y69 := (kdl_le mrg2.toInt).1
      have B72 : kB msz2 0 599 := ⟨by omega, by omega⟩
      refine va_put (D := D) (ci := 8) (v := .int v68) (ty := .int) (C := RX8) (T := TX8) (N := 22) hx hb hts in_X8 tyX8 tyX8_ok nmX8 hown hK.1 hP hD hS 0 rfl rfl 5 (by decide) (hts _ mk_28) (fun _ h9 => h9) rfl (by decide +kernel) rfl rfl (Nat.le_of_ble_eq_true rfl) dX8_writeBit_69 (fun H locs hP hD hS => ?_)
      have hP : va_P D vwCl [(hm, .inr (8, [.int mrf, .ref hby, .int msz2, .int mbg, .long mbt2, .int v68, .int mct2, .int mvl, .int mpl, .int mcl, .int mrw, .int mqt, .int mlv, .int mtl, .int mbe, .int mch, .ref hpb, .ref hwa, .ref hmn, .ref hcf, .ref hsa, .ref hro])), (hby, .inl (cI, 600, .inl mby2))] H := hP
      have hD : va_D A [(hm, .inr (8, [.int mrf, .ref hby, .int msz2, .int mbg, .long mbt2, .int v68, .int mct2, .int mvl, .int mpl, .int mcl, .int mrw, .int mqt, .int mlv, .int mtl, .int mbe, .int mch, .ref hpb, .ref hwa, .ref hmn, .ref hcf, .ref hsa, .ref hro])), (hby, .inl (cI, 600, .inl mby2))] := hD
      refine lv_aload_n hx hb dX8_writeBit_72 rfl (lv_at hl 0 rfl) ?_
      refine va_get (D := D) (ci := 8) (v := .long mbt2) (C := RX8) (T := TX8) (N := 22) hx hb hts in_X8 hown hK.1 hP 0 rfl rfl 4 (by decide) (hts _ mk_27) (fun _ h9 => h9) rfl dX8_writeBit_73 ?_
      refine lv_ldc2 (v := 2147483648) hx hb hown (hts _ mk_33) dX8_writeBit_76 ?_
      refine W.lcmp hx hb dX8_writeBit_79 ?_
      refine lv_topi (fun v79 e79 => ?_)
      refine lv_if_lt (tgt := 87) hx hb dX8_writeBit_80 (by decide) (fun c80 => ?_) (fun c80 => ?_)
      · have c80a := kB_all v79
        have c80x : kB v79 (-2147483648) (-1) := kB_lt_l c80a kc_0 c80 (by decide)
        have CF : mby2 = wF msz2.toInt.toNat B2 mby2 := wF_n (fun h9 => by have h8 := (lM_lt (by omega) 2147483648 (by decide)).mp (show lg_cmp (lN B2) (lN 2147483648) < 0 by rw [← hb2]; rw [e79] at c80; exact c80); omega)
        refine lv_aload_n hx hb dX8_writeBit_87 rfl (lv_at hl 0 rfl) ?_
        refine lv_ldc2 (v := 2) hx hb hown (hts _ mk_34) dX8_writeBit_88 ?_
        refine lv_aload_n hx hb dX8_writeBit_91 rfl (lv_at hl 0 rfl) ?_
        refine va_get (D := D) (ci := 8) (v := .long mbt2) (C := RX8) (T := TX8) (N := 22) hx hb hts in_X8 hown hK.1 hP 0 rfl rfl 4 (by decide) (hts _ mk_27) (fun _ h9 => h9) rfl dX8_writeBit_92 ?_
        refine lv_lmul hx hb dX8_writeBit_95 ?_
        refine lv_topl (fun v95 e95 => ?_)
        refine lv_ldc2 (v := 4294967295) hx hb hown (hts _ mk_32) dX8_writeBit_96 ?_
        refine lv_land hx hb dX8_writeBit_99 ?_
        refine lv_topl (fun v99 e99 => ?_)
        have V99 : v99 = lN (2 * B2 % 4294967296) := by rw [e99, e95, hb2, show (2 : Int64) = lN 2 from by decide, lN_mul]; exact lM_and (k := 32) (p := 4294967296) (by decide) (by decide) (by decide) (by omega)
        refine va_put (D := D) (ci := 8) (v := .long v99) (ty := .long) (C := RX8) (T := TX8) (N := 22) hx hb hts in_X8 tyX8 tyX8_ok nmX8 hown hK.1 hP hD hS 0 rfl rfl 4 (by decide) (hts _ mk_27) (fun _ h9 => h9) rfl (by decide +kernel) rfl rfl (Nat.le_of_ble_eq_true rfl) dX8_writeBit_100 (fun H locs hP hD hS => ?_)
        have hP : va_P D vwCl [(hm, .inr (8, [.int mrf, .ref hby, .int msz2, .int mbg, .long v99, .int v68, .int mct2, .int mvl, .int mpl, .int mcl, .int mrw, .int mqt, .int mlv, .int mtl, .int mbe, .int mch, .ref hpb, .ref hwa, .ref hmn, .ref hcf, .ref hsa, .ref hro])), (hby, .inl (cI, 600, .inl mby2))] H := hP
        have hD : va_D A [(hm, .inr (8, [.int mrf, .ref hby, .int msz2, .int mbg, .long v99, .int v68, .int mct2, .int mvl, .int mpl, .int mcl, .int mrw, .int mqt, .int mlv, .int mtl, .int mbe, .int mch, .ref hpb, .ref hwa, .ref hmn, .ref hcf, .ref hsa, .ref hro])), (hby, .inl (cI, 600, .inl mby2))] := hD
        refine lv_aload_n hx hb dX8_writeBit_103 rfl (lv_at hl 0 rfl) ?_
        refine lv_dup hx hb dX8_writeBit_104 rfl ?_
        refine va_get (D := D) (ci := 8) (v := .int mct2) (C := RX8) (T := TX8) (N := 22) hx hb hts in_X8 hown hK.1 hP 0 rfl rfl 6 (by decide) (hts _ mk_29) (fun _ h9 => h9) rfl dX8_writeBit_105 ?_
        refine lv_iconst (v := 1) hx hb dX8_writeBit_108 (by decide) ?_
        refine lv_isub hx hb dX8_writeBit_109 ?_
        refine lv_topi (fun v109 e109 => ?_)
        have b109 : kB v109 0 23 := kB_eq e109 (kB_sub bct2 kc_1 (by decide))
        have K109 : v109.toInt = mct2.toInt - 1 := by rw [e109]; exact kdec1 (kB_w bct2 (by decide) (by decide))
        refine va_put (D := D) (ci := 8) (v := .int v109) (ty := .int) (C := RX8) (T := TX8) (N := 22) hx hb hts in_X8 tyX8 tyX8_ok nmX8 hown hK.1 hP hD hS 0 rfl rfl 6 (by decide) (hts _ mk_29) (fun _ h9 => h9) rfl (by decide +kernel) rfl rfl (Nat.le_of_ble_eq_true rfl) dX8_writeBit_110 (fun H locs hP hD hS => ?_)
        have hP : va_P D vwCl [(hm, .inr (8, [.int mrf, .ref hby, .int msz2, .int mbg, .long v99, .int v68, .int v109, .int mvl, .int mpl, .int mcl, .int mrw, .int mqt, .int mlv, .int mtl, .int mbe, .int mch, .ref hpb, .ref hwa, .ref hmn, .ref hcf, .ref hsa, .ref hro])), (hby, .inl (cI, 600, .inl mby2))] H := hP
        have hD : va_D A [(hm, .inr (8, [.int mrf, .ref hby, .int msz2, .int mbg, .long v99, .int v68, .int v109, .int mvl, .int mpl, .int mcl, .int mrw, .int mqt, .int mlv, .int mtl, .int mbe, .int mch, .ref hpb, .ref hwa, .ref hmn, .ref hcf, .ref hsa, .ref hro])), (hby, .inl (cI, 600, .inl mby2))] := hD
        refine lv_aload_n hx hb dX8_writeBit_113 rfl (lv_at hl 0 rfl) ?_
        refine va_get (D := D) (ci := 8) (v := .int v109) (C := RX8) (T := TX8) (N := 22) hx hb hts in_X8 hown hK.1 hP 0 rfl rfl 6 (by decide) (hts _ mk_29) (fun _ h9 => h9) rfl dX8_writeBit_114 ?_
        refine lv_if_ne (tgt := 52) hx hb dX8_writeBit_117 (by decide) (fun c117 => ?_) (fun c117 => ?_)
        · have c117x : kB v109 1 23 := kB_nlo b109 c117 kc_0 (by decide)
          have Z117 := kn0 c117
          have HSn : ¬ mct2.toInt = 1 := by omega
          have Q4 : v99 = lN (wSh (mct2.toInt, msz2.toInt, B2, mby2)).2.2.1 := by rw [wSh_n HSn]; exact V99
          exact ih msz2 v99 v68 v109 mby2 ((wSh (mct2.toInt, msz2.toInt, B2, mby2)).2.2.1) (by rw [K68]; have := c59nx.2; have := brg2.1; omega) (kB_w b68 (by decide) (by decide)) (kB_w B72 (by decide) (by decide)) (kB_w c117x (by decide) (by decide)) (by omega) (by rw [K68, N68]; exact kr) (by rw [K68]; omega) Q4 (wSh_lt hb3) (by rw [K68, wIt_dbl brg2.1 (by have := c59nx.2; omega)] at *; first | (rw [wSh_n HSn] at *; rw [K109, ← CF] at *; exact hit) | (rw [wSh_1 HS1] at *; rw [Z8, q125_1, q125_2, ← CF] at *; exact hit)) _ _ ls hP hD hS (lv_sub hl [0] rfl)
        · have c117x : kB v109 0 0 := kB_eq c117 kc_0
          have Z117 := k0 c117
          have Z8 : (8 : Int32).toInt = 8 := by decide
          have HS1 : mct2.toInt = 1 := by omega
          refine lv_aload_n hx hb dX8_writeBit_120 rfl (lv_at hl 0 rfl) ?_
          refine lv_aload_n hx hb dX8_writeBit_121 rfl (lv_at hl 0 rfl) ?_
          refine va_get (D := D) (ci := 8) (v := .long v99) (C := RX8) (T := TX8) (N := 22) hx hb hts in_X8 hown hK.1 hP 0 rfl rfl 4 (by decide) (hts _ mk_27) (fun _ h9 => h9) rfl dX8_writeBit_122 ?_
          have hPc := hP.sub (ws' := [(hm, .inr (8, [.int mrf, .ref hby, .int msz2, .int mbg, .long v99, .int v68, .int v109, .int mvl, .int mpl, .int mcl, .int mrw, .int mqt, .int mlv, .int mtl, .int mbe, .int mch, .ref hpb, .ref hwa, .ref hmn, .ref hcf, .ref hsa, .ref hro])), (hby, .inl (cI, 600, .inl mby2))]) [0, 1] rfl
          have hDc := hD.sub (ws' := [(hm, .inr (8, [.int mrf, .ref hby, .int msz2, .int mbg, .long v99, .int v68, .int v109, .int mvl, .int mpl, .int mcl, .int mrw, .int mqt, .int mlv, .int mtl, .int mbe, .int mch, .ref hpb, .ref hwa, .ref hmn, .ref hcf, .ref hsa, .ref hro])), (hby, .inl (cI, 600, .inl mby2))]) [0, 1] (by decide) rfl
          have hFc := va_free (wc := [(hm, .inr (8, [.int mrf, .ref hby, .int msz2, .int mbg, .long v99, .int v68, .int v109, .int mvl, .int mpl, .int mcl, .int mrw, .int mqt, .int mlv, .int mtl, .int mbe, .int mch, .ref hpb, .ref hwa, .ref hmn, .ref hcf, .ref hsa, .ref hro])), (hby, .inl (cI, 600, .inl mby2))]) hD hS hA [0, 1] rfl
          refine va_callv (va_runV (As := [.long v99]) (rest := []) ⟨hx, hb, hml, hown, hts⟩ (c_X8_append l D cI cJ cZ hm hby hpb hwa hmn hcf hsa hro mrf msz2 mbg v68 v109 mvl mpl mcl mrw mqt mlv mtl mbe mch v99 mby2 v99 (2 * B2 % 4294967296) B72 V99 (Nat.mod_lt _ (by decide)) (H).size) (cwV 1 hts (kg_V mk_35 mk_36 mk_37 mk_38 mk_39) rfl rfl rfl (by decide +kernel) ⟨Nat.le_of_ble_eq_true rfl, Nat.le_of_ble_eq_true rfl⟩) ⟨fun a U g mk q => by obtain ⟨q0, q1, qP, qK, qD⟩ := q; exact ⟨q0, q1, qP, kK.call qK, qD⟩, va_recv hK.1 hPc (ci := 8) (q0 := 0) rfl rfl, fun U hU hW => ⟨rfl, by rw [hU], by rw [hU]; exact hPc, kK.warm hW hK, hDc.weaken (fun _ _ _ _ => trivial)⟩⟩ rfl rfl hl.1 rfl (lv_room (Nat.le_of_ble_eq_true rfl)) dX8_writeBit_125 ⟨Nat.zero_le _, Nat.zero_le _⟩) hS (fun q _ h => hFc q h) hFc (fun u t9 H1 locs ht9 hvm9 hw9 hB9 hz9 hk9 hS => ?_)
          obtain ⟨msz2_125, mby2_125⟩ := u
          obtain ⟨hP1, hD1⟩ := hB9
          rw [ht9] at hP1
          have hP1 : va_P D vwCl [(hm, .inr (8, [.int mrf, .ref hby, .int msz2_125, .int mbg, .long v99, .int v68, .int v109, .int mvl, .int mpl, .int mcl, .int mrw, .int mqt, .int mlv, .int mtl, .int mbe, .int mch, .ref hpb, .ref hwa, .ref hmn, .ref hcf, .ref hsa, .ref hro])), (hby, .inl (cI, 600, .inl mby2_125))] H1 := hP1
          obtain ⟨hP, hD⟩ := va_join (wr := []) (w1 := [(hm, .inr (8, [.int mrf, .ref hby, .int msz2_125, .int mbg, .long v99, .int v68, .int v109, .int mvl, .int mpl, .int mcl, .int mrw, .int mqt, .int mlv, .int mtl, .int mbe, .int mch, .ref hpb, .ref hwa, .ref hmn, .ref hcf, .ref hsa, .ref hro])), (hby, .inl (cI, 600, .inl mby2_125))]) hP hD [0, 1] [] rfl rfl (by decide) (by decide) hk9 hFc hP1 hD1
          have hP := hP.sub (ws' := [(hm, .inr (8, [.int mrf, .ref hby, .int msz2_125, .int mbg, .long v99, .int v68, .int v109, .int mvl, .int mpl, .int mcl, .int mrw, .int mqt, .int mlv, .int mtl, .int mbe, .int mch, .ref hpb, .ref hwa, .ref hmn, .ref hcf, .ref hsa, .ref hro])), (hby, .inl (cI, 600, .inl mby2_125))]) [0, 1] rfl
          have hD := hD.sub (ws' := [(hm, .inr (8, [.int mrf, .ref hby, .int msz2_125, .int mbg, .long v99, .int v68, .int v109, .int mvl, .int mpl, .int mcl, .int mrw, .int mqt, .int mlv, .int mtl, .int mbe, .int mch, .ref hpb, .ref hwa, .ref hmn, .ref hcf, .ref hsa, .ref hro])), (hby, .inl (cI, 600, .inl mby2_125))]) [0, 1] (by decide) rfl
          generalize H1 = H at hP hS ⊢
          obtain ⟨q125_0, q125_1, q125_2⟩ := hw9
          have q125_0 : kB msz2_125 0 600 := q125_0
          have q125_1 : msz2_125.toInt = msz2.toInt + 1 := q125_1
          have q125_2 : mby2_125 = upd mby2 msz2.toInt.toNat (nI ((2 * B2 % 4294967296) / 16777216)) := q125_2
          refine lv_aload_n hx hb dX8_writeBit_128 rfl (lv_at hl 0 rfl) ?_
          refine lv_aload_n hx hb dX8_writeBit_129 rfl (lv_at hl 0 rfl) ?_
          refine va_get (D := D) (ci := 8) (v := .long v99) (C := RX8) (T := TX8) (N := 22) hx hb hts in_X8 hown hK.1 hP 0 rfl rfl 4 (by decide) (hts _ mk_27) (fun _ h9 => h9) rfl dX8_writeBit_130 ?_
          refine lv_ldc2 (v := 16777215) hx hb hown (hts _ mk_40) dX8_writeBit_133 ?_
          refine lv_land hx hb dX8_writeBit_136 ?_
          refine lv_topl (fun v136 e136 => ?_)
          have V136 : v136 = lN (2 * B2 % 4294967296 % 16777216) := by rw [e136, V99]; exact lM_and (k := 24) (p := 16777216) (by decide) (by decide) (by decide) (by omega)
          have Q4 : v136 = lN (wSh (mct2.toInt, msz2.toInt, B2, mby2)).2.2.1 := by rw [wSh_1 HS1]; exact V136
          refine va_put (D := D) (ci := 8) (v := .long v136) (ty := .long) (C := RX8) (T := TX8) (N := 22) hx hb hts in_X8 tyX8 tyX8_ok nmX8 hown hK.1 hP hD hS 0 rfl rfl 4 (by decide) (hts _ mk_27) (fun _ h9 => h9) rfl (by decide +kernel) rfl rfl (Nat.le_of_ble_eq_true rfl) dX8_writeBit_137 (fun H locs hP hD hS => ?_)
          have hP : va_P D vwCl [(hm, .inr (8, [.int mrf, .ref hby, .int msz2_125, .int mbg, .long v136, .int v68, .int v109, .int mvl, .int mpl, .int mcl, .int mrw, .int mqt, .int mlv, .int mtl, .int mbe, .int mch, .ref hpb, .ref hwa, .ref hmn, .ref hcf, .ref hsa, .ref hro])), (hby, .inl (cI, 600, .inl mby2_125))] H := hP
          have hD : va_D A [(hm, .inr (8, [.int mrf, .ref hby, .int msz2_125, .int mbg, .long v136, .int v68, .int v109, .int mvl, .int mpl, .int mcl, .int mrw, .int mqt, .int mlv, .int mtl, .int mbe, .int mch, .ref hpb, .ref hwa, .ref hmn, .ref hcf, .ref hsa, .ref hro])), (hby, .inl (cI, 600, .inl mby2_125))] := hD
          refine lv_aload_n hx hb dX8_writeBit_140 rfl (lv_at hl 0 rfl) ?_
          refine lv_bipush (v := 8) hx hb dX8_writeBit_141 (by decide) ?_
          refine va_put (D := D) (ci := 8) (v := .int 8) (ty := .int) (C := RX8) (T := TX8) (N := 22) hx hb hts in_X8 tyX8 tyX8_ok nmX8 hown hK.1 hP hD hS 0 rfl rfl 6 (by decide) (hts _ mk_29) (fun _ h9 => h9) rfl (by decide +kernel) rfl rfl (Nat.le_of_ble_eq_true rfl) dX8_writeBit_143 (fun H locs hP hD hS => ?_)
          have hP : va_P D vwCl [(hm, .inr (8, [.int mrf, .ref hby, .int msz2_125, .int mbg, .long v136, .int v68, .int 8, .int mvl, .int mpl, .int mcl, .int mrw, .int mqt, .int mlv, .int mtl, .int mbe, .int mch, .ref hpb, .ref hwa, .ref hmn, .ref hcf, .ref hsa, .ref hro])), (hby, .inl (cI, 600, .inl mby2_125))] H := hP
          have hD : va_D A [(hm, .inr (8, [.int mrf, .ref hby, .int msz2_125, .int mbg, .long v136, .int v68, .int 8, .int mvl, .int mpl, .int mcl, .int mrw, .int mqt, .int mlv, .int mtl, .int mbe, .int mch, .ref hpb, .ref hwa, .ref hmn, .ref hcf, .ref hsa, .ref hro])), (hby, .inl (cI, 600, .inl mby2_125))] := hD
          refine lv_goto (tgt := 52) hx hb dX8_writeBit_146 (by decide) ?_
          exact ih msz2_125 v136 v68 8 mby2_125 ((wSh (mct2.toInt, msz2.toInt, B2, mby2)).2.2.1) (by rw [K68]; have := c59nx.2; have := brg2.1; omega) (kB_w b68 (by decide) (by decide)) q125_0 (kB_w kc_8 (by decide) (by decide)) (by omega) (by rw [K68, N68]; exact kr) (by rw [K68]; omega) Q4 (wSh_lt hb3) (by rw [K68, wIt_dbl brg2.1 (by have := c59nx.2; omega)] at *; first | (rw [wSh_n HSn] at *; rw [K109, ← CF] at *; exact hit) | (rw [wSh_1 HS1] at *; rw [Z8, q125_1, q125_2, ← CF] at *; exact hit)) _ _ ls hP hD hS (lv_sub hl [0] rfl)
      · have c80n : 0 ≤ v79 := kN_lt c80
        have c80nb := kB_all v79
        have c80ny : kB v79 0 2147483647 := kB_le_r kc_0 c80nb c80n (by decide)
        refine lv_aload_n hx hb dX8_writeBit_83 rfl (lv_at hl 0 rfl) ?_
        have hPc := hP.sub (ws' := [(hm, .inr (8, [.int mrf, .ref hby, .int msz2, .int mbg, .long mbt2, .int v68, .int mct2, .int mvl, .int mpl, .int mcl, .int mrw, .int mqt, .int mlv, .int mtl, .int mbe, .int mch, .ref hpb, .ref hwa, .ref hmn, .ref hcf, .ref hsa, .ref hro])), (hby, .inl (cI, 600, .inl mby2))]) [0, 1] rfl
        have hDc := hD.sub (ws' := [(hm, .inr (8, [.int mrf, .ref hby, .int msz2, .int mbg, .long mbt2, .int v68, .int mct2, .int mvl, .int mpl, .int mcl, .int mrw, .int mqt, .int mlv, .int mtl, .int mbe, .int mch, .ref hpb, .ref hwa, .ref hmn, .ref hcf, .ref hsa, .ref hro])), (hby, .inl (cI, 600, .inl mby2))]) [0, 1] (by decide) rfl
        have hFc := va_free (wc := [(hm, .inr (8, [.int mrf, .ref hby, .int msz2, .int mbg, .long mbt2, .int v68, .int mct2, .int mvl, .int mpl, .int mcl, .int mrw, .int mqt, .int mlv, .int mtl, .int mbe, .int mch, .ref hpb, .ref hwa, .ref hmn, .ref hcf, .ref hsa, .ref hro])), (hby, .inl (cI, 600, .inl mby2))]) hD hS hA [0, 1] rfl
        refine va_callv (va_runV (As := []) (rest := []) ⟨hx, hb, hml, hown, hts⟩ (c_X8_carry l D cI cJ cZ hm hby hpb hwa hmn hcf hsa hro mrf msz2 mbg v68 mct2 mvl mpl mcl mrw mqt mlv mtl mbe mch mbt2 mby2 (kB_w B72 (by decide) (by decide)) (H).size) (cwV 0 hts (kg_V mk_41 mk_42 mk_43 mk_38 mk_44) rfl rfl rfl (by decide +kernel) ⟨Nat.le_of_ble_eq_true rfl, Nat.le_of_ble_eq_true rfl⟩) ⟨fun a U g mk q => by obtain ⟨q0, q1, qP, qK, qD⟩ := q; exact ⟨q0, q1, qP, kK.call qK, qD⟩, va_recv hK.1 hPc (ci := 8) (q0 := 0) rfl rfl, fun U hU hW => ⟨rfl, by rw [hU], by rw [hU]; exact hPc, kK.warm hW hK, hDc.weaken (fun _ _ _ _ => trivial)⟩⟩ rfl rfl hl.1 rfl (lv_room (Nat.le_of_ble_eq_true rfl)) dX8_writeBit_84 ⟨Nat.zero_le _, Nat.zero_le _⟩) hS (fun q _ h => hFc q h) hFc (fun u t9 H1 locs ht9 hvm9 hw9 hB9 hz9 hk9 hS => ?_)
        obtain ⟨mby2_84, rfl⟩ : ∃ z, z = u := ⟨_, rfl⟩
        obtain ⟨hP1, hD1⟩ := hB9
        rw [ht9] at hP1
        have hP1 : va_P D vwCl [(hm, .inr (8, [.int mrf, .ref hby, .int msz2, .int mbg, .long mbt2, .int v68, .int mct2, .int mvl, .int mpl, .int mcl, .int mrw, .int mqt, .int mlv, .int mtl, .int mbe, .int mch, .ref hpb, .ref hwa, .ref hmn, .ref hcf, .ref hsa, .ref hro])), (hby, .inl (cI, 600, .inl mby2_84))] H1 := hP1
        obtain ⟨hP, hD⟩ := va_join (wr := []) (w1 := [(hm, .inr (8, [.int mrf, .ref hby, .int msz2, .int mbg, .long mbt2, .int v68, .int mct2, .int mvl, .int mpl, .int mcl, .int mrw, .int mqt, .int mlv, .int mtl, .int mbe, .int mch, .ref hpb, .ref hwa, .ref hmn, .ref hcf, .ref hsa, .ref hro])), (hby, .inl (cI, 600, .inl mby2_84))]) hP hD [0, 1] [] rfl rfl (by decide) (by decide) hk9 hFc hP1 hD1
        have hP := hP.sub (ws' := [(hm, .inr (8, [.int mrf, .ref hby, .int msz2, .int mbg, .long mbt2, .int v68, .int mct2, .int mvl, .int mpl, .int mcl, .int mrw, .int mqt, .int mlv, .int mtl, .int mbe, .int mch, .ref hpb, .ref hwa, .ref hmn, .ref hcf, .ref hsa, .ref hro])), (hby, .inl (cI, 600, .inl mby2_84))]) [0, 1] rfl
        have hD := hD.sub (ws' := [(hm, .inr (8, [.int mrf, .ref hby, .int msz2, .int mbg, .long mbt2, .int v68, .int mct2, .int mvl, .int mpl, .int mcl, .int mrw, .int mqt, .int mlv, .int mtl, .int mbe, .int mch, .ref hpb, .ref hwa, .ref hmn, .ref hcf, .ref hsa, .ref hro])), (hby, .inl (cI, 600, .inl mby2_84))]) [0, 1] (by decide) rfl
        generalize H1 = H at hP hS ⊢
        have q84_0 : mby2_84 = wCar msz2.toInt.toNat mby2 := hw9
        have CF : mby2_84 = wF msz2.toInt.toNat B2 mby2 := by rw [q84_0]; exact wF_y (by rcases Nat.lt_or_ge B2 2147483648 with h9 | h9; · exact absurd ((lM_lt (by omega) 2147483648 (by decide)).mpr h9) (by rw [← hb2]; rw [e79] at c80; exact c80); · exact h9)
        refine lv_aload_n hx hb dX8_writeBit_87 rfl (lv_at hl 0 rfl) ?_
        refine lv_ldc2 (v := 2) hx hb hown (hts _ mk_34) dX8_writeBit_88 ?_
        refine lv_aload_n hx hb dX8_writeBit_91 rfl (lv_at hl 0 rfl) ?_
        refine va_get (D := D) (ci := 8) (v := .long mbt2) (C := RX8) (T := TX8) (N := 22) hx hb hts in_X8 hown hK.1 hP 0 rfl rfl 4 (by decide) (hts _ mk_27) (fun _ h9 => h9) rfl dX8_writeBit_92 ?_
        refine lv_lmul hx hb dX8_writeBit_95 ?_
        refine lv_topl (fun v95 e95 => ?_)
        refine lv_ldc2 (v := 4294967295) hx hb hown (hts _ mk_32) dX8_writeBit_96 ?_
        refine lv_land hx hb dX8_writeBit_99 ?_
        refine lv_topl (fun v99 e99 => ?_)
        have V99 : v99 = lN (2 * B2 % 4294967296) := by rw [e99, e95, hb2, show (2 : Int64) = lN 2 from by decide, lN_mul]; exact lM_and (k := 32) (p := 4294967296) (by decide) (by decide) (by decide) (by omega)
        refine va_put (D := D) (ci := 8) (v := .long v99) (ty := .long) (C := RX8) (T := TX8) (N := 22) hx hb hts in_X8 tyX8 tyX8_ok nmX8 hown hK.1 hP hD hS 0 rfl rfl 4 (by decide) (hts _ mk_27) (fun _ h9 => h9) rfl (by decide +kernel) rfl rfl (Nat.le_of_ble_eq_true rfl) dX8_writeBit_100 (fun H locs hP hD hS => ?_)
        have hP : va_P D vwCl [(hm, .inr (8, [.int mrf, .ref hby, .int msz2, .int mbg, .long v99, .int v68, .int mct2, .int mvl, .int mpl, .int mcl, .int mrw, .int mqt, .int mlv, .int mtl, .int mbe, .int mch, .ref hpb, .ref hwa, .ref hmn, .ref hcf, .ref hsa, .ref hro])), (hby, .inl (cI, 600, .inl mby2_84))] H := hP
        have hD : va_D A [(hm, .inr (8, [.int mrf, .ref hby, .int msz2, .int mbg, .long v99, .int v68, .int mct2, .int mvl, .int mpl, .int mcl, .int mrw, .int mqt, .int mlv, .int mtl, .int mbe, .int mch, .ref hpb, .ref hwa, .ref hmn, .ref hcf, .ref hsa, .ref hro])), (hby, .inl (cI, 600, .inl mby2_84))] := hD
        refine lv_aload_n hx hb dX8_writeBit_103 rfl (lv_at hl 0 rfl) ?_
        refine lv_dup hx hb dX8_writeBit_104 rfl ?_
        refine va_get (D := D) (ci := 8) (v := .int mct2) (C := RX8) (T := TX8) (N := 22) hx hb hts in_X8 hown hK.1 hP 0 rfl rfl 6 (by decide) (hts _ mk_29) (fun _ h9 => h9) rfl dX8_writeBit_105 ?_
        refine lv_iconst (v := 1) hx hb dX8_writeBit_108 (by decide) ?_
        refine lv_isub hx hb dX8_writeBit_109 ?_
        refine lv_topi (fun v109 e109 => ?_)
        have b109 : kB v109 0 23 := kB_eq e109 (kB_sub bct2 kc_1 (by decide))
        have K109 : v109.toInt = mct2.toInt - 1 := by rw [e109]; exact kdec1 (kB_w bct2 (by decide) (by decide))
        refine va_put (D := D) (ci := 8) (v := .int v109) (ty := .int) (C := RX8) (T := TX8) (N := 22) hx hb hts in_X8 tyX8 tyX8_ok nmX8 hown hK.1 hP hD hS 0 rfl rfl 6 (by decide) (hts _ mk_29) (fun _ h9 => h9) rfl (by decide +kernel) rfl rfl (Nat.le_of_ble_eq_true rfl) dX8_writeBit_110 (fun H locs hP hD hS => ?_)
        have hP : va_P D vwCl [(hm, .inr (8, [.int mrf, .ref hby, .int msz2, .int mbg, .long v99, .int v68, .int v109, .int mvl, .int mpl, .int mcl, .int mrw, .int mqt, .int mlv, .int mtl, .int mbe, .int mch, .ref hpb, .ref hwa, .ref hmn, .ref hcf, .ref hsa, .ref hro])), (hby, .inl (cI, 600, .inl mby2_84))] H := hP
        have hD : va_D A [(hm, .inr (8, [.int mrf, .ref hby, .int msz2, .int mbg, .long v99, .int v68, .int v109, .int mvl, .int mpl, .int mcl, .int mrw, .int mqt, .int mlv, .int mtl, .int mbe, .int mch, .ref hpb, .ref hwa, .ref hmn, .ref hcf, .ref hsa, .ref hro])), (hby, .inl (cI, 600, .inl mby2_84))] := hD
        refine lv_aload_n hx hb dX8_writeBit_113 rfl (lv_at hl 0 rfl) ?_
        refine va_get (D := D) (ci := 8) (v := .int v109) (C := RX8) (T := TX8) (N := 22) hx hb hts in_X8 hown hK.1 hP 0 rfl rfl 6 (by decide) (hts _ mk_29) (fun _ h9 => h9) rfl dX8_writeBit_114 ?_
        refine lv_if_ne (tgt := 52) hx hb dX8_writeBit_117 (by decide) (fun c117 => ?_) (fun c117 => ?_)
        · have c117x : kB v109 1 23 := kB_nlo b109 c117 kc_0 (by decide)
          have Z117 := kn0 c117
          have HSn : ¬ mct2.toInt = 1 := by omega
          have Q4 : v99 = lN (wSh (mct2.toInt, msz2.toInt, B2, mby2)).2.2.1 := by rw [wSh_n HSn]; exact V99
          exact ih msz2 v99 v68 v109 mby2_84 ((wSh (mct2.toInt, msz2.toInt, B2, mby2)).2.2.1) (by rw [K68]; have := c59nx.2; have := brg2.1; omega) (kB_w b68 (by decide) (by decide)) (kB_w B72 (by decide) (by decide)) (kB_w c117x (by decide) (by decide)) (by omega) (by rw [K68, N68]; exact kr) (by rw [K68]; omega) Q4 (wSh_lt hb3) (by rw [K68, wIt_dbl brg2.1 (by have := c59nx.2; omega)] at *; first | (rw [wSh_n HSn] at *; rw [K109, ← CF] at *; exact hit) | (rw [wSh_1 HS1] at *; rw [Z8, q125_1, q125_2, ← CF] at *; exact hit)) _ _ ls hP hD hS (lv_sub hl [0] rfl)
        · have c117x : kB v109 0 0 := kB_eq c117 kc_0
          have Z117 := k0 c117
          have Z8 : (8 : Int32).toInt = 8 := by decide
          have HS1 : mct2.toInt = 1 := by omega
          refine lv_aload_n hx hb dX8_writeBit_120 rfl (lv_at hl 0 rfl) ?_
          refine lv_aload_n hx hb dX8_writeBit_121 rfl (lv_at hl 0 rfl) ?_
          refine va_get (D := D) (ci := 8) (v := .long v99) (C := RX8) (T := TX8) (N := 22) hx hb hts in_X8 hown hK.1 hP 0 rfl rfl 4 (by decide) (hts _ mk_27) (fun _ h9 => h9) rfl dX8_writeBit_122 ?_
          have hPc := hP.sub (ws' := [(hm, .inr (8, [.int mrf, .ref hby, .int msz2, .int mbg, .long v99, .int v68, .int v109, .int mvl, .int mpl, .int mcl, .int mrw, .int mqt, .int mlv, .int mtl, .int mbe, .int mch, .ref hpb, .ref hwa, .ref hmn, .ref hcf, .ref hsa, .ref hro])), (hby, .inl (cI, 600, .inl mby2_84))]) [0, 1] rfl
          have hDc := hD.sub (ws' := [(hm, .inr (8, [.int mrf, .ref hby, .int msz2, .int mbg, .long v99, .int v68, .int v109, .int mvl, .int mpl, .int mcl, .int mrw, .int mqt, .int mlv, .int mtl, .int mbe, .int mch, .ref hpb, .ref hwa, .ref hmn, .ref hcf, .ref hsa, .ref hro])), (hby, .inl (cI, 600, .inl mby2_84))]) [0, 1] (by decide) rfl
          have hFc := va_free (wc := [(hm, .inr (8, [.int mrf, .ref hby, .int msz2, .int mbg, .long v99, .int v68, .int v109, .int mvl, .int mpl, .int mcl, .int mrw, .int mqt, .int mlv, .int mtl, .int mbe, .int mch, .ref hpb, .ref hwa, .ref hmn, .ref hcf, .ref hsa, .ref hro])), (hby, .inl (cI, 600, .inl mby2_84))]) hD hS hA [0, 1] rfl
          refine va_callv (va_runV (As := [.long v99]) (rest := []) ⟨hx, hb, hml, hown, hts⟩ (c_X8_append l D cI cJ cZ hm hby hpb hwa hmn hcf hsa hro mrf msz2 mbg v68 v109 mvl mpl mcl mrw mqt mlv mtl mbe mch v99 mby2_84 v99 (2 * B2 % 4294967296) B72 V99 (Nat.mod_lt _ (by decide)) (H).size) (cwV 1 hts (kg_V mk_35 mk_36 mk_37 mk_38 mk_39) rfl rfl rfl (by decide +kernel) ⟨Nat.le_of_ble_eq_true rfl, Nat.le_of_ble_eq_true rfl⟩) ⟨fun a U g mk q => by obtain ⟨q0, q1, qP, qK, qD⟩ := q; exact ⟨q0, q1, qP, kK.call qK, qD⟩, va_recv hK.1 hPc (ci := 8) (q0 := 0) rfl rfl, fun U hU hW => ⟨rfl, by rw [hU], by rw [hU]; exact hPc, kK.warm hW hK, hDc.weaken (fun _ _ _ _ => trivial)⟩⟩ rfl rfl hl.1 rfl (lv_room (Nat.le_of_ble_eq_true rfl)) dX8_writeBit_125 ⟨Nat.zero_le _, Nat.zero_le _⟩) hS (fun q _ h => hFc q h) hFc (fun u t9 H1 locs ht9 hvm9 hw9 hB9 hz9 hk9 hS => ?_)
          obtain ⟨msz2_125, mby2_125⟩ := u
          obtain ⟨hP1, hD1⟩ := hB9
          rw [ht9] at hP1
          have hP1 : va_P D vwCl [(hm, .inr (8, [.int mrf, .ref hby, .int msz2_125, .int mbg, .long v99, .int v68, .int v109, .int mvl, .int mpl, .int mcl, .int mrw, .int mqt, .int mlv, .int mtl, .int mbe, .int mch, .ref hpb, .ref hwa, .ref hmn, .ref hcf, .ref hsa, .ref hro])), (hby, .inl (cI, 600, .inl mby2_125))] H1 := hP1
          obtain ⟨hP, hD⟩ := va_join (wr := []) (w1 := [(hm, .inr (8, [.int mrf, .ref hby, .int msz2_125, .int mbg, .long v99, .int v68, .int v109, .int mvl, .int mpl, .int mcl, .int mrw, .int mqt, .int mlv, .int mtl, .int mbe, .int mch, .ref hpb, .ref hwa, .ref hmn, .ref hcf, .ref hsa, .ref hro])), (hby, .inl (cI, 600, .inl mby2_125))]) hP hD [0, 1] [] rfl rfl (by decide) (by decide) hk9 hFc hP1 hD1
          have hP := hP.sub (ws' := [(hm, .inr (8, [.int mrf, .ref hby, .int msz2_125, .int mbg, .long v99, .int v68, .int v109, .int mvl, .int mpl, .int mcl, .int mrw, .int mqt, .int mlv, .int mtl, .int mbe, .int mch, .ref hpb, .ref hwa, .ref hmn, .ref hcf, .ref hsa, .ref hro])), (hby, .inl (cI, 600, .inl mby2_125))]) [0, 1] rfl
          have hD := hD.sub (ws' := [(hm, .inr (8, [.int mrf, .ref hby, .int msz2_125, .int mbg, .long v99, .int v68, .int v109, .int mvl, .int mpl, .int mcl, .int mrw, .int mqt, .int mlv, .int mtl, .int mbe, .int mch, .ref hpb, .ref hwa, .ref hmn, .ref hcf, .ref hsa, .ref hro])), (hby, .inl (cI, 600, .inl mby2_125))]) [0, 1] (by decide) rfl
          generalize H1 = H at hP hS ⊢
          obtain ⟨q125_0, q125_1, q125_2⟩ := hw9
          have q125_0 : kB msz2_125 0 600 := q125_0
          have q125_1 : msz2_125.toInt = msz2.toInt + 1 := q125_1
          have q125_2 : mby2_125 = upd mby2_84 msz2.toInt.toNat (nI ((2 * B2 % 4294967296) / 16777216)) := q125_2
          refine lv_aload_n hx hb dX8_writeBit_128 rfl (lv_at hl 0 rfl) ?_
          refine lv_aload_n hx hb dX8_writeBit_129 rfl (lv_at hl 0 rfl) ?_
          refine va_get (D := D) (ci := 8) (v := .long v99) (C := RX8) (T := TX8) (N := 22) hx hb hts in_X8 hown hK.1 hP 0 rfl rfl 4 (by decide) (hts _ mk_27) (fun _ h9 => h9) rfl dX8_writeBit_130 ?_
          refine lv_ldc2 (v := 16777215) hx hb hown (hts _ mk_40) dX8_writeBit_133 ?_
          refine lv_land hx hb dX8_writeBit_136 ?_
          refine lv_topl (fun v136 e136 => ?_)
          have V136 : v136 = lN (2 * B2 % 4294967296 % 16777216) := by rw [e136, V99]; exact lM_and (k := 24) (p := 16777216) (by decide) (by decide) (by decide) (by omega)
          have Q4 : v136 = lN (wSh (mct2.toInt, msz2.toInt, B2, mby2)).2.2.1 := by rw [wSh_1 HS1]; exact V136
          refine va_put (D := D) (ci := 8) (v := .long v136) (ty := .long) (C := RX8) (T := TX8) (N := 22) hx hb hts in_X8 tyX8 tyX8_ok nmX8 hown hK.1 hP hD hS 0 rfl rfl 4 (by decide) (hts _ mk_27) (fun _ h9 => h9) rfl (by decide +kernel) rfl rfl (Nat.le_of_ble_eq_true rfl) dX8_writeBit_137 (fun H locs hP hD hS => ?_)
          have hP : va_P D vwCl [(hm, .inr (8, [.int mrf, .ref hby, .int msz2_125, .int mbg, .long v136, .int v68, .int v109, .int mvl, .int mpl, .int mcl, .int mrw, .int mqt, .int mlv, .int mtl, .int mbe, .int mch, .ref hpb, .ref hwa, .ref hmn, .ref hcf, .ref hsa, .ref hro])), (hby, .inl (cI, 600, .inl mby2_125))] H := hP
          have hD : va_D A [(hm, .inr (8, [.int mrf, .ref hby, .int msz2_125, .int mbg, .long v136, .int v68, .int v109, .int mvl, .int mpl, .int mcl, .int mrw, .int mqt, .int mlv, .int mtl, .int mbe, .int mch, .ref hpb, .ref hwa, .ref hmn, .ref hcf, .ref hsa, .ref hro])), (hby, .inl (cI, 600, .inl mby2_125))] := hD
          refine lv_aload_n hx hb dX8_writeBit_140 rfl (lv_at hl 0 rfl) ?_
          refine lv_bipush (v := 8) hx hb dX8_writeBit_141 (by decide) ?_
          refine va_put (D := D) (ci := 8) (v := .int 8) (ty := .int) (C := RX8) (T := TX8) (N := 22) hx hb hts in_X8 tyX8 tyX8_ok nmX8 hown hK.1 hP hD hS 0 rfl rfl 6 (by decide) (hts _ mk_29) (fun _ h9 => h9) rfl (by decide +kernel) rfl rfl (Nat.le_of_ble_eq_true rfl) dX8_writeBit_143 (fun H locs hP hD hS => ?_)
          have hP : va_P D vwCl [(hm, .inr (8, [.int mrf, .ref hby, .int msz2_125, .int mbg, .long v136, .int v68, .int 8, .int mvl, .int mpl, .int mcl, .int mrw, .int mqt, .int mlv, .int mtl, .int mbe, .int mch, .ref hpb, .ref hwa, .ref hmn, .ref hcf, .ref hsa, .ref hro])), (hby, .inl (cI, 600, .inl mby2_125))] H := hP
          have hD : va_D A [(hm, .inr (8, [.int mrf, .ref hby, .int msz2_125, .int mbg, .long v136, .int v68, .int 8, .int mvl, .int mpl, .int mcl, .int mrw, .int mqt, .int mlv, .int mtl, .int mbe, .int mch, .ref hpb, .ref hwa, .ref hmn, .ref hcf, .ref hsa, .ref hro])), (hby, .inl (cI, 600, .inl mby2_125))] := hD
          refine lv_goto (tgt := 52) hx hb dX8_writeBit_146 (by decide) ?_
          exact ih msz2_125 v136 v68 8 mby2_125 ((wSh (mct2.toInt, msz2.toInt, B2, mby2)).2.2.1) (by rw [K68]; have := c59nx.2; have := brg2.1; omega) (kB_w b68 (by decide) (by decide)) q125_0 (kB_w kc_8 (by decide) (by decide)) (by omega) (by rw [K68, N68]; exact kr) (by rw [K68]; omega) Q4 (wSh_lt hb3) (by rw [K68, wIt_dbl brg2.1 (by have := c59nx.2; omega)] at *; first | (rw [wSh_n HSn] at *; rw [K109, ← CF] at *; exact hit) | (rw [wSh_1 HS1] at *; rw [Z8, q125_1, q125_2, ← CF] at *; exact hit)) _ _ ls hP hD hS (lv_sub hl [0] rfl)
set_option maxHeartbeats 4000000 in
set_option maxRecDepth 100000 in
theorem c_X8_writeBit (l : Launch) (D : va_G) (cI cJ cZ : ClassId) (hm hby hpb hwa hmn hcf hsa hro : Nat) (mrf : Int32) (msz : Int32) (mbg : Int32) (mrg : Int32) (mct : Int32) (mvl : Int32) (mpl : Int32) (mcl : Int32) (mrw : Int32) (mqt : Int32) (mlv : Int32) (mtl : Int32) (mbe : Int32) (mch : Int32) (mbt : Int64) (mby : Nat → Int32) (pp : Int32) (bt : Int32) (B : Nat) (brg : kB mrg 128 255) (bp : kB pp 0 255) (bsz : kB msz 0 592) (bct : kB mct 1 24) (nf : kNF mct.toInt msz.toInt) (hB : mbt = lN B) (hB2 : B < 4294967296) (hpz : Nat) : Met l yX8_writeBit kw_X8_writeBit ({ frames := 1, cells := 0, slots := 0, locals := 22 }) (va_Pc [.ref hm, .int pp, .int bt] (fun U => U.heap.size = hpz ∧ va_P D vwCl [(hm, .inr (8, [.int mrf, .ref hby, .int msz, .int mbg, .long mbt, .int mrg, .int mct, .int mvl, .int mpl, .int mcl, .int mrw, .int mqt, .int mlv, .int mtl, .int mbe, .int mch, .ref hpb, .ref hwa, .ref hmn, .ref hcf, .ref hsa, .ref hro])), (hby, .inl (cI, 600, .inl mby))] U.heap ∧ kK D cI cJ cZ U ∧ va_D (fun _ => True) [(hm, .inr (8, [.int mrf, .ref hby, .int msz, .int mbg, .long mbt, .int mrg, .int mct, .int mvl, .int mpl, .int mcl, .int mrw, .int mqt, .int mlv, .int mtl, .int mbe, .int mch, .ref hpb, .ref hwa, .ref hmn, .ref hcf, .ref hsa, .ref hro])), (hby, .inl (cI, 600, .inl mby))])) (va_Qv (fun (u : Int32 × Int64 × Int32 × Int32 × (Nat → Int32)) => (kB u.2.2.1 128 255) ∧ (kB u.1 0 600) ∧ (kB u.2.2.2.1 1 24) ∧ (kNF u.2.2.2.1.toInt u.1.toInt) ∧ (u.2.2.1.toInt = krn (kr1 pp.toInt bt.toInt mrg.toInt)) ∧ (8 * u.1.toInt - u.2.2.2.1.toInt = 8 * msz.toInt - mct.toInt + kdl (kr1 pp.toInt bt.toInt mrg.toInt)) ∧ (u.2.1 = lN (wIt (kdl (kr1 pp.toInt bt.toInt mrg.toInt)).toNat (mct.toInt, msz.toInt, wB1 pp.toInt bt.toInt mrg.toInt B, mby)).2.2.1) ∧ (u.2.2.2.1.toInt = (wIt (kdl (kr1 pp.toInt bt.toInt mrg.toInt)).toNat (mct.toInt, msz.toInt, wB1 pp.toInt bt.toInt mrg.toInt B, mby)).1) ∧ (u.1.toInt = (wIt (kdl (kr1 pp.toInt bt.toInt mrg.toInt)).toNat (mct.toInt, msz.toInt, wB1 pp.toInt bt.toInt mrg.toInt B, mby)).2.1) ∧ (u.2.2.2.2 = (wIt (kdl (kr1 pp.toInt bt.toInt mrg.toInt)).toNat (mct.toInt, msz.toInt, wB1 pp.toInt bt.toInt mrg.toInt B, mby)).2.2.2)) (fun (u : Int32 × Int64 × Int32 × Int32 × (Nat → Int32)) (t : State) => va_P D vwCl [(hm, .inr (8, [.int mrf, .ref hby, .int u.1, .int mbg, .long u.2.1, .int u.2.2.1, .int u.2.2.2.1, .int mvl, .int mpl, .int mcl, .int mrw, .int mqt, .int mlv, .int mtl, .int mbe, .int mch, .ref hpb, .ref hwa, .ref hmn, .ref hcf, .ref hsa, .ref hro])), (hby, .inl (cI, 600, .inl u.2.2.2.2))] t.heap ∧ va_D (va_A [(hm, .inr (8, [.int mrf, .ref hby, .int msz, .int mbg, .long mbt, .int mrg, .int mct, .int mvl, .int mpl, .int mcl, .int mrw, .int mqt, .int mlv, .int mtl, .int mbe, .int mch, .ref hpb, .ref hwa, .ref hmn, .ref hcf, .ref hsa, .ref hro])), (hby, .inl (cI, 600, .inl mby))] hpz) [(hm, .inr (8, [.int mrf, .ref hby, .int u.1, .int mbg, .long u.2.1, .int u.2.2.1, .int u.2.2.2.1, .int mvl, .int mpl, .int mcl, .int mrw, .int mqt, .int mlv, .int mtl, .int mbe, .int mch, .ref hpb, .ref hwa, .ref hmn, .ref hcf, .ref hsa, .ref hro])), (hby, .inl (cI, 600, .inl u.2.2.2.2))]) (va_A [(hm, .inr (8, [.int mrf, .ref hby, .int msz, .int mbg, .long mbt, .int mrg, .int mct, .int mvl, .int mpl, .int mcl, .int mrw, .int mqt, .int mlv, .int mtl, .int mbe, .int mch, .ref hpb, .ref hwa, .ref hmn, .ref hcf, .ref hsa, .ref hro])), (hby, .inl (cI, 600, .inl mby))] hpz)) 0 0 (va_A [(hm, .inr (8, [.int mrf, .ref hby, .int msz, .int mbg, .long mbt, .int mrg, .int mct, .int mvl, .int mpl, .int mcl, .int mrw, .int mqt, .int mlv, .int mtl, .int mbe, .int mch, .ref hpb, .ref hwa, .ref hmn, .ref hcf, .ref hsa, .ref hro])), (hby, .inl (cI, 600, .inl mby))] hpz) := by
  refine Met.ofW (cc := cX8_writeBit) (maxL := 4) (ret := none) (by decide) rfl ?_
  intro p e s m args below meth c s₁ B hml hv
  obtain ⟨rfl, hsz, hP, hK, hD0⟩ := hv
  have hx := B.exec
  have hb := B.bytes
  have hr := B.returns
  have hts := fun (w : Cond) (h : w ∈ kW) => atoms_spec (ws := kw_X8_writeBit) B.pre w (List.mem_cons_of_mem _ h)
  have hown : s.vm.findClass RX8 = some m.cls := findClass_of_methodNamed B.named
  have hlocks := B.notSynchronized
  subst hsz
  have hD := hD0.self (sz := s.heap.size)
  generalize hAe : va_A [(hm, .inr (8, [.int mrf, .ref hby, .int msz, .int mbg, .long mbt, .int mrg, .int mct, .int mvl, .int mpl, .int mcl, .int mrw, .int mqt, .int mlv, .int mtl, .int mbe, .int mch, .ref hpb, .ref hwa, .ref hmn, .ref hcf, .ref hsa, .ref hro])), (hby, .inl (cI, 600, .inl mby))] s.heap.size = A at hD ⊢
  have hA : ∀ q : Nat, s.heap.size ≤ q → A q := fun q h => by rw [← hAe]; exact Or.inr h
  have hS : va_S A s.heap s.heap [] := va_S.rf
  have hP : va_P D vwCl [(hm, .inr (8, [.int mrf, .ref hby, .int msz, .int mbg, .long mbt, .int mrg, .int mct, .int mvl, .int mpl, .int mcl, .int mrw, .int mqt, .int mlv, .int mtl, .int mbe, .int mch, .ref hpb, .ref hwa, .ref hmn, .ref hcf, .ref hsa, .ref hro])), (hby, .inl (cI, 600, .inl mby))] s.heap := hP
  have hl := lv_entry ([.ref hm, .int pp, .int bt]) (n := 4) (Nat.le_of_ble_eq_true rfl)
  rw [lg_entry_eq]
  generalize (lg_sl ([.ref hm, .int pp, .int bt]) ++ List.replicate (4 - (lg_sl ([.ref hm, .int pp, .int bt])).length) Slot.unset).toArray = ls at hl ⊢
  have hl : lv_has ls 4 [(0, .ref hm), (1, .int pp), (2, .int bt)] := hl
  refine lv_iconst (v := 1) hx hb dX8_writeBit_0 (by decide) ?_
  refine lv_aload_n hx hb dX8_writeBit_1 rfl (lv_at hl 0 rfl) ?_
  refine va_get (D := D) (ci := 8) (v := .int mrg) (C := RX8) (T := TX8) (N := 22) hx hb hts in_X8 hown hK.1 hP 0 rfl rfl 5 (by decide) (hts _ mk_28) (fun _ h9 => h9) rfl dX8_writeBit_2 ?_
  refine lv_iconst (v := 1) hx hb dX8_writeBit_5 (by decide) ?_
  refine lv_isub hx hb dX8_writeBit_6 ?_
  refine lv_topi (fun v6 e6 => ?_)
  have b6 : kB v6 127 254 := kB_eq e6 (kB_sub brg kc_1 (by decide))
  refine lv_iload_n hx hb dX8_writeBit_7 rfl (lv_at hl 1 rfl) ?_
  refine lv_imul hx hb dX8_writeBit_8 ?_
  refine lv_topi (fun v8 e8 => ?_)
  have b8 : kB v8 0 64770 := kB_eq e8 (kB_mul b6 bp (by decide))
  refine lv_sipush (v := 256) hx hb dX8_writeBit_9 (by decide) ?_
  refine lv_idiv hx hb dX8_writeBit_12 (kB_ne0 kc_256 (Or.inl (by decide))) ?_
  refine lv_topi (fun v12 e12 => ?_)
  have b12 : kB v12 0 253 := kB_eq e12 (kB_div b8 kc_256 (by decide))
  refine lv_iadd hx hb dX8_writeBit_13 ?_
  refine lv_topi (fun v13 e13 => ?_)
  have b13 : kB v13 1 254 := kB_eq e13 (kB_add kc_1 b12 (by decide))
  have X13 : v13.toInt = 1 + (mrg.toInt - 1) * pp.toInt / 256 := by rw [e13, e12, e8, e6]; exact kspM_toInt brg bp
  have L13 := ksp_lt brg.1 brg.2 bp.1 bp.2
  have B13 : kB v13 1 254 := ⟨by rw [X13]; exact L13.1, by rw [X13]; have := L13.2; have := brg.2; omega⟩
  refine lv_istore_n (lv' := [(3, .int v13), (0, .ref hm), (1, .int pp), (2, .int bt)]) hx hb dX8_writeBit_14 rfl hl (by decide) rfl (fun ls hl => ?_)
  refine lv_iload_n hx hb dX8_writeBit_15 rfl (lv_at hl 3 rfl) ?_
  refine lv_if_ne (tgt := 27) hx hb dX8_writeBit_16 (by decide) (fun c16 => ?_) (fun c16 => ?_)
  · refine lv_aload_n hx hb dX8_writeBit_27 rfl (lv_at hl 1 rfl) ?_
    refine lv_aload_n hx hb dX8_writeBit_28 rfl (lv_at hl 1 rfl) ?_
    refine va_get (D := D) (ci := 8) (v := .long mbt) (C := RX8) (T := TX8) (N := 22) hx hb hts in_X8 hown hK.1 hP 0 rfl rfl 4 (by decide) (hts _ mk_27) (fun _ h9 => h9) rfl dX8_writeBit_29 ?_
    refine lv_iload_n hx hb dX8_writeBit_32 rfl (lv_at hl 0 rfl) ?_
    refine lv_i2l hx hb dX8_writeBit_33 rfl ?_
    refine lv_topl (fun v33 e33 => ?_)
    refine lv_ladd hx hb dX8_writeBit_34 ?_
    refine lv_topl (fun v34 e34 => ?_)
    refine lv_ldc2 (v := 4294967295) hx hb hown (hts _ mk_32) dX8_writeBit_35 ?_
    refine lv_land hx hb dX8_writeBit_38 ?_
    refine lv_topl (fun v38 e38 => ?_)
    refine va_put (D := D) (ci := 8) (v := .long v38) (ty := .long) (C := RX8) (T := TX8) (N := 22) hx hb hts in_X8 tyX8 tyX8_ok nmX8 hown hK.1 hP hD hS 0 rfl rfl 4 (by decide) (hts _ mk_27) (fun _ h9 => h9) rfl (by decide +kernel) rfl rfl (Nat.le_of_ble_eq_true rfl) dX8_writeBit_39 (fun H locs hP hD hS => ?_)
    have hP : va_P D vwCl [(hm, .inr (8, [.int mrf, .ref hby, .int msz, .int mbg, .long v38, .int mrg, .int mct, .int mvl, .int mpl, .int mcl, .int mrw, .int mqt, .int mlv, .int mtl, .int mbe, .int mch, .ref hpb, .ref hwa, .ref hmn, .ref hcf, .ref hsa, .ref hro])), (hby, .inl (cI, 600, .inl mby))] H := hP
    have hD : va_D A [(hm, .inr (8, [.int mrf, .ref hby, .int msz, .int mbg, .long v38, .int mrg, .int mct, .int mvl, .int mpl, .int mcl, .int mrw, .int mqt, .int mlv, .int mtl, .int mbe, .int mch, .ref hpb, .ref hwa, .ref hmn, .ref hcf, .ref hsa, .ref hro])), (hby, .inl (cI, 600, .inl mby))] := hD
    refine lv_aload_n hx hb dX8_writeBit_42 rfl (lv_at hl 1 rfl) ?_
    refine lv_aload_n hx hb dX8_writeBit_43 rfl (lv_at hl 1 rfl) ?_
    refine va_get (D := D) (ci := 8) (v := .int mrg) (C := RX8) (T := TX8) (N := 22) hx hb hts in_X8 hown hK.1 hP 0 rfl rfl 5 (by decide) (hts _ mk_28) (fun _ h9 => h9) rfl dX8_writeBit_44 ?_
    refine lv_iload_n hx hb dX8_writeBit_47 rfl (lv_at hl 0 rfl) ?_
    refine lv_isub hx hb dX8_writeBit_48 ?_
    refine lv_topi (fun v48 e48 => ?_)
    have b48 : kB v48 (-126) 254 := kB_eq e48 (kB_sub brg B13 (by decide))
    have X48 : v48.toInt = mrg.toInt - v13.toInt := by rw [e48, kI_sub (by have := B13.2; have := brg.1; omega) (by have := B13.1; have := brg.2; omega)]
    have B48 : kB v48 1 254 := ⟨by rw [X48, X13]; have := L13.2; omega, by rw [X48]; have := B13.1; have := brg.2; omega⟩
    have R1 : v48.toInt = (kr1 pp.toInt bt.toInt mrg.toInt) := by rw [X48, X13]; unfold kr1; rw [if_neg (kn0 c16)]
    have WB : wB1 pp.toInt bt.toInt mrg.toInt B = (B + (1 + (mrg.toInt - 1) * pp.toInt / 256).toNat) % 4294967296 := by unfold wB1; rw [if_neg (kn0 c16)]
    have HB : v38 = lN ((B + (1 + (mrg.toInt - 1) * pp.toInt / 256).toNat) % 4294967296) := by rw [e38, e34, hB, e33, lM_i (nI_of_toInt (x := v13) (by have := B13.1; omega)) (by have := B13.2; omega), lN_add, X13]; exact lM_and (k := 32) (p := 4294967296) (by decide) (by decide) (by decide) (by have := B13.2; omega)
    have HB3 : (B + (1 + (mrg.toInt - 1) * pp.toInt / 256).toNat) % 4294967296 < 4294967296 := Nat.mod_lt _ (by decide)
    refine va_put (D := D) (ci := 8) (v := .int v48) (ty := .int) (C := RX8) (T := TX8) (N := 22) hx hb hts in_X8 tyX8 tyX8_ok nmX8 hown hK.1 hP hD hS 0 rfl rfl 5 (by decide) (hts _ mk_28) (fun _ h9 => h9) rfl (by decide +kernel) rfl rfl (Nat.le_of_ble_eq_true rfl) dX8_writeBit_49 (fun H locs hP hD hS => ?_)
    have hP : va_P D vwCl [(hm, .inr (8, [.int mrf, .ref hby, .int msz, .int mbg, .long v38, .int v48, .int mct, .int mvl, .int mpl, .int mcl, .int mrw, .int mqt, .int mlv, .int mtl, .int mbe, .int mch, .ref hpb, .ref hwa, .ref hmn, .ref hcf, .ref hsa, .ref hro])), (hby, .inl (cI, 600, .inl mby))] H := hP
    have hD : va_D A [(hm, .inr (8, [.int mrf, .ref hby, .int msz, .int mbg, .long v38, .int v48, .int mct, .int mvl, .int mpl, .int mcl, .int mrw, .int mqt, .int mlv, .int mtl, .int mbe, .int mch, .ref hpb, .ref hwa, .ref hmn, .ref hcf, .ref hsa, .ref hro])), (hby, .inl (cI, 600, .inl mby))] := hD
    exact lp_X8_writeBit_52 D cI cJ cZ hm hby hpb hwa hmn hcf hsa hro mrf msz mbg mrg mct mvl mpl mcl mrw mqt mlv mtl mbe mch mbt mby pp bt B brg bp bsz bct nf hB hB2 hx hb hr hml hown hts hlocks hK hA ((128 - v48.toInt).toNat + 1) msz v38 v48 mct mby ((B + (1 + (mrg.toInt - 1) * pp.toInt / 256).toNat) % 4294967296) (Nat.lt_succ_self _) (kB_w B48 (by decide) (by decide)) (kB_w bsz (by decide) (by decide)) bct nf (by rw [R1]) (by rw [R1]; omega) HB HB3 (by rw [R1, WB]) _ _ ls hP hD hS (lv_sub hl [1] rfl)
  · have c16x : kB bt 0 0 := kB_eq c16 kc_0
    refine lv_aload_n hx hb dX8_writeBit_19 rfl (lv_at hl 1 rfl) ?_
    refine lv_iload_n hx hb dX8_writeBit_20 rfl (lv_at hl 0 rfl) ?_
    have R1 : v13.toInt = (kr1 pp.toInt bt.toInt mrg.toInt) := by rw [X13]; unfold kr1; rw [if_pos (k0 c16)]
    have WB : wB1 pp.toInt bt.toInt mrg.toInt B = B := by unfold wB1; rw [if_pos (k0 c16)]
    have HB : mbt = lN B := hB
    have HB3 : B < 4294967296 := hB2
    refine va_put (D := D) (ci := 8) (v := .int v13) (ty := .int) (C := RX8) (T := TX8) (N := 22) hx hb hts in_X8 tyX8 tyX8_ok nmX8 hown hK.1 hP hD hS 0 rfl rfl 5 (by decide) (hts _ mk_28) (fun _ h9 => h9) rfl (by decide +kernel) rfl rfl (Nat.le_of_ble_eq_true rfl) dX8_writeBit_21 (fun H locs hP hD hS => ?_)
    have hP : va_P D vwCl [(hm, .inr (8, [.int mrf, .ref hby, .int msz, .int mbg, .long mbt, .int v13, .int mct, .int mvl, .int mpl, .int mcl, .int mrw, .int mqt, .int mlv, .int mtl, .int mbe, .int mch, .ref hpb, .ref hwa, .ref hmn, .ref hcf, .ref hsa, .ref hro])), (hby, .inl (cI, 600, .inl mby))] H := hP
    have hD : va_D A [(hm, .inr (8, [.int mrf, .ref hby, .int msz, .int mbg, .long mbt, .int v13, .int mct, .int mvl, .int mpl, .int mcl, .int mrw, .int mqt, .int mlv, .int mtl, .int mbe, .int mch, .ref hpb, .ref hwa, .ref hmn, .ref hcf, .ref hsa, .ref hro])), (hby, .inl (cI, 600, .inl mby))] := hD
    refine lv_goto (tgt := 52) hx hb dX8_writeBit_24 (by decide) ?_
    exact lp_X8_writeBit_52 D cI cJ cZ hm hby hpb hwa hmn hcf hsa hro mrf msz mbg mrg mct mvl mpl mcl mrw mqt mlv mtl mbe mch mbt mby pp bt B brg bp bsz bct nf hB hB2 hx hb hr hml hown hts hlocks hK hA ((128 - v13.toInt).toNat + 1) msz mbt v13 mct mby B (Nat.lt_succ_self _) (kB_w B13 (by decide) (by decide)) (kB_w bsz (by decide) (by decide)) bct nf (by rw [R1]) (by rw [R1]; omega) HB HB3 (by rw [R1, WB]) _ _ ls hP hD hS (lv_sub hl [1] rfl)
end
