section
-- ===== PART A: goes FIRST, ahead of the names: the tables' words, and 'selects' of the private methods out of them =====
/-- a private method of a class that the tables say can be made, by its rows of tables_1 -/
def lw_okq (q : MethodName × Nat) : Prop := (q.1.cls ≠ "java/lang/invoke/MethodHandle" ∧ q.1.cls ≠ "java/lang/invoke/VarHandle") ∧ Cond.instantiable q.1.cls q.2 ∈ tables_1 ∧ Cond.privateMethod q.1 ∈ tables_1 ∧ Cond.instanceMethod q.1 ∈ tables_1
theorem lw_p0 : lw_okq (⟨"CombedLight", "plateOf", "(I)LCombedLight$Plate;"⟩, 15) := ⟨⟨by decide +kernel, by decide +kernel⟩, List.mem_of_getElem? (i := 10) (by decide +kernel), List.mem_of_getElem? (i := 182) (by decide +kernel), List.mem_of_getElem? (i := 183) (by decide +kernel)⟩
theorem lw_p1 : lw_okq (⟨"CombedLight", "caused", "(I)I"⟩, 15) := ⟨⟨by decide +kernel, by decide +kernel⟩, List.mem_of_getElem? (i := 10) (by decide +kernel), List.mem_of_getElem? (i := 192) (by decide +kernel), List.mem_of_getElem? (i := 193) (by decide +kernel)⟩
theorem lw_p2 : lw_okq (⟨"CombedLight", "combOf", "(I)LCombedLight$Comb;"⟩, 15) := ⟨⟨by decide +kernel, by decide +kernel⟩, List.mem_of_getElem? (i := 10) (by decide +kernel), List.mem_of_getElem? (i := 258) (by decide +kernel), List.mem_of_getElem? (i := 259) (by decide +kernel)⟩
theorem lw_p3 : lw_okq (⟨"CombedLight", "middleOfLight", "(LCombedLight$Comb;LCombedLight$Plate;I)I"⟩, 15) := ⟨⟨by decide +kernel, by decide +kernel⟩, List.mem_of_getElem? (i := 10) (by decide +kernel), List.mem_of_getElem? (i := 294) (by decide +kernel), List.mem_of_getElem? (i := 295) (by decide +kernel)⟩
theorem lw_p4 : lw_okq (⟨"CombedLight", "isBad", "(II)Z"⟩, 15) := ⟨⟨by decide +kernel, by decide +kernel⟩, List.mem_of_getElem? (i := 10) (by decide +kernel), List.mem_of_getElem? (i := 298) (by decide +kernel), List.mem_of_getElem? (i := 299) (by decide +kernel)⟩
theorem lw_p5 : lw_okq (⟨"CombedLight", "drawnNumber", "(LCombedLight$Comb;LCombedLight$Plate;LCombedLight$Plate;II)J"⟩, 15) := ⟨⟨by decide +kernel, by decide +kernel⟩, List.mem_of_getElem? (i := 10) (by decide +kernel), List.mem_of_getElem? (i := 317) (by decide +kernel), List.mem_of_getElem? (i := 318) (by decide +kernel)⟩
theorem lw_p6 : lw_okq (⟨"CombedLight", "sumColumn", "(LCombedLight$Comb;LCombedLight$Plate;LCombedLight$Plate;II)V"⟩, 15) := ⟨⟨by decide +kernel, by decide +kernel⟩, List.mem_of_getElem? (i := 10) (by decide +kernel), List.mem_of_getElem? (i := 321) (by decide +kernel), List.mem_of_getElem? (i := 322) (by decide +kernel)⟩
theorem lw_p7 : lw_okq (⟨"CombedLight", "counts", "(LCombedLight$Plate;II)Z"⟩, 15) := ⟨⟨by decide +kernel, by decide +kernel⟩, List.mem_of_getElem? (i := 10) (by decide +kernel), List.mem_of_getElem? (i := 329) (by decide +kernel), List.mem_of_getElem? (i := 330) (by decide +kernel)⟩
theorem lw_p8 : lw_okq (⟨"CombedLight", "rayRow", "(LCombedLight$Comb;LCombedLight$Plate;LCombedLight$Plate;II)I"⟩, 15) := ⟨⟨by decide +kernel, by decide +kernel⟩, List.mem_of_getElem? (i := 10) (by decide +kernel), List.mem_of_getElem? (i := 337) (by decide +kernel), List.mem_of_getElem? (i := 338) (by decide +kernel)⟩
theorem lw_p9 : lw_okq (⟨"CombedLight", "findPlaces", "(LCombedLight$Comb;J)I"⟩, 15) := ⟨⟨by decide +kernel, by decide +kernel⟩, List.mem_of_getElem? (i := 10) (by decide +kernel), List.mem_of_getElem? (i := 369) (by decide +kernel), List.mem_of_getElem? (i := 370) (by decide +kernel)⟩
theorem lw_p10 : lw_okq (⟨"CombedLight", "tryPair", "(IIII)V"⟩, 15) := ⟨⟨by decide +kernel, by decide +kernel⟩, List.mem_of_getElem? (i := 10) (by decide +kernel), List.mem_of_getElem? (i := 401) (by decide +kernel), List.mem_of_getElem? (i := 402) (by decide +kernel)⟩
theorem lw_p11 : lw_okq (⟨"CombedLight", "offer", "(IIII)V"⟩, 15) := ⟨⟨by decide +kernel, by decide +kernel⟩, List.mem_of_getElem? (i := 10) (by decide +kernel), List.mem_of_getElem? (i := 409) (by decide +kernel), List.mem_of_getElem? (i := 410) (by decide +kernel)⟩
theorem lw_p12 : lw_okq (⟨"CombedLight", "nearLine", "(JI)Z"⟩, 15) := ⟨⟨by decide +kernel, by decide +kernel⟩, List.mem_of_getElem? (i := 10) (by decide +kernel), List.mem_of_getElem? (i := 416) (by decide +kernel), List.mem_of_getElem? (i := 417) (by decide +kernel)⟩
theorem lw_p13 : lw_okq (⟨"CombedLight", "lawCount", "()I"⟩, 15) := ⟨⟨by decide +kernel, by decide +kernel⟩, List.mem_of_getElem? (i := 10) (by decide +kernel), List.mem_of_getElem? (i := 448) (by decide +kernel), List.mem_of_getElem? (i := 449) (by decide +kernel)⟩
theorem lw_p14 : lw_okq (⟨"CombedLight", "joinAt", "(IJ)Z"⟩, 15) := ⟨⟨by decide +kernel, by decide +kernel⟩, List.mem_of_getElem? (i := 10) (by decide +kernel), List.mem_of_getElem? (i := 452) (by decide +kernel), List.mem_of_getElem? (i := 453) (by decide +kernel)⟩
theorem lw_p15 : lw_okq (⟨"CombedLight", "plateCount", "()I"⟩, 15) := ⟨⟨by decide +kernel, by decide +kernel⟩, List.mem_of_getElem? (i := 10) (by decide +kernel), List.mem_of_getElem? (i := 491) (by decide +kernel), List.mem_of_getElem? (i := 492) (by decide +kernel)⟩
def lw_privs_1 : List (MethodName × Nat) := [(⟨"CombedLight", "plateOf", "(I)LCombedLight$Plate;"⟩, 15), (⟨"CombedLight", "caused", "(I)I"⟩, 15), (⟨"CombedLight", "combOf", "(I)LCombedLight$Comb;"⟩, 15), (⟨"CombedLight", "middleOfLight", "(LCombedLight$Comb;LCombedLight$Plate;I)I"⟩, 15), (⟨"CombedLight", "isBad", "(II)Z"⟩, 15), (⟨"CombedLight", "drawnNumber", "(LCombedLight$Comb;LCombedLight$Plate;LCombedLight$Plate;II)J"⟩, 15), (⟨"CombedLight", "sumColumn", "(LCombedLight$Comb;LCombedLight$Plate;LCombedLight$Plate;II)V"⟩, 15), (⟨"CombedLight", "counts", "(LCombedLight$Plate;II)Z"⟩, 15), (⟨"CombedLight", "rayRow", "(LCombedLight$Comb;LCombedLight$Plate;LCombedLight$Plate;II)I"⟩, 15), (⟨"CombedLight", "findPlaces", "(LCombedLight$Comb;J)I"⟩, 15), (⟨"CombedLight", "tryPair", "(IIII)V"⟩, 15), (⟨"CombedLight", "offer", "(IIII)V"⟩, 15), (⟨"CombedLight", "nearLine", "(JI)Z"⟩, 15), (⟨"CombedLight", "lawCount", "()I"⟩, 15), (⟨"CombedLight", "joinAt", "(IJ)Z"⟩, 15), (⟨"CombedLight", "plateCount", "()I"⟩, 15)]
theorem lw_r1 : ∀ q ∈ lw_privs_1, lw_okq q := List.forall_mem_cons.mpr ⟨lw_p0, List.forall_mem_cons.mpr ⟨lw_p1, List.forall_mem_cons.mpr ⟨lw_p2, List.forall_mem_cons.mpr ⟨lw_p3, List.forall_mem_cons.mpr ⟨lw_p4, List.forall_mem_cons.mpr ⟨lw_p5, List.forall_mem_cons.mpr ⟨lw_p6, List.forall_mem_cons.mpr ⟨lw_p7, List.forall_mem_cons.mpr ⟨lw_p8, List.forall_mem_cons.mpr ⟨lw_p9, List.forall_mem_cons.mpr ⟨lw_p10, List.forall_mem_cons.mpr ⟨lw_p11, List.forall_mem_cons.mpr ⟨lw_p12, List.forall_mem_cons.mpr ⟨lw_p13, List.forall_mem_cons.mpr ⟨lw_p14, List.forall_mem_cons.mpr ⟨lw_p15, fun _ h => absurd h List.not_mem_nil⟩⟩⟩⟩⟩⟩⟩⟩⟩⟩⟩⟩⟩⟩⟩⟩
theorem lw_p16 : lw_okq (⟨"CombedLight", "badCount", "()I"⟩, 15) := ⟨⟨by decide +kernel, by decide +kernel⟩, List.mem_of_getElem? (i := 10) (by decide +kernel), List.mem_of_getElem? (i := 495) (by decide +kernel), List.mem_of_getElem? (i := 496) (by decide +kernel)⟩
theorem lw_p17 : lw_okq (⟨"CombedLightModel", "met", "(I)I"⟩, 30) := ⟨⟨by decide +kernel, by decide +kernel⟩, List.mem_of_getElem? (i := 514) (by decide +kernel), List.mem_of_getElem? (i := 623) (by decide +kernel), List.mem_of_getElem? (i := 624) (by decide +kernel)⟩
theorem lw_p18 : lw_okq (⟨"CombedLightModel", "isPlace", "(III)Z"⟩, 30) := ⟨⟨by decide +kernel, by decide +kernel⟩, List.mem_of_getElem? (i := 514) (by decide +kernel), List.mem_of_getElem? (i := 631) (by decide +kernel), List.mem_of_getElem? (i := 632) (by decide +kernel)⟩
theorem lw_p19 : lw_okq (⟨"CombedLightModel", "isLike", "(II)Z"⟩, 30) := ⟨⟨by decide +kernel, by decide +kernel⟩, List.mem_of_getElem? (i := 514) (by decide +kernel), List.mem_of_getElem? (i := 645) (by decide +kernel), List.mem_of_getElem? (i := 646) (by decide +kernel)⟩
theorem lw_p20 : lw_okq (⟨"CombedLightModel", "isComb", "(I)Z"⟩, 30) := ⟨⟨by decide +kernel, by decide +kernel⟩, List.mem_of_getElem? (i := 514) (by decide +kernel), List.mem_of_getElem? (i := 676) (by decide +kernel), List.mem_of_getElem? (i := 677) (by decide +kernel)⟩
theorem lw_p21 : lw_okq (⟨"CombedLightModel", "firstRow", "(III)I"⟩, 30) := ⟨⟨by decide +kernel, by decide +kernel⟩, List.mem_of_getElem? (i := 514) (by decide +kernel), List.mem_of_getElem? (i := 684) (by decide +kernel), List.mem_of_getElem? (i := 685) (by decide +kernel)⟩
theorem lw_p22 : lw_okq (⟨"CombedLightModel", "middle", "(III)I"⟩, 30) := ⟨⟨by decide +kernel, by decide +kernel⟩, List.mem_of_getElem? (i := 514) (by decide +kernel), List.mem_of_getElem? (i := 688) (by decide +kernel), List.mem_of_getElem? (i := 689) (by decide +kernel)⟩
theorem lw_p23 : lw_okq (⟨"CombedLightModel", "lastRow", "(III)I"⟩, 30) := ⟨⟨by decide +kernel, by decide +kernel⟩, List.mem_of_getElem? (i := 514) (by decide +kernel), List.mem_of_getElem? (i := 695) (by decide +kernel), List.mem_of_getElem? (i := 696) (by decide +kernel)⟩
theorem lw_p24 : lw_okq (⟨"CombedLightModel", "lightAt", "(III)I"⟩, 30) := ⟨⟨by decide +kernel, by decide +kernel⟩, List.mem_of_getElem? (i := 514) (by decide +kernel), List.mem_of_getElem? (i := 703) (by decide +kernel), List.mem_of_getElem? (i := 704) (by decide +kernel)⟩
theorem lw_p25 : lw_okq (⟨"CombedLightModel", "bounded", "(I)J"⟩, 30) := ⟨⟨by decide +kernel, by decide +kernel⟩, List.mem_of_getElem? (i := 514) (by decide +kernel), List.mem_of_getElem? (i := 707) (by decide +kernel), List.mem_of_getElem? (i := 708) (by decide +kernel)⟩
theorem lw_p26 : lw_okq (⟨"CombedLightModel", "drawn", "(IIIII)J"⟩, 30) := ⟨⟨by decide +kernel, by decide +kernel⟩, List.mem_of_getElem? (i := 514) (by decide +kernel), List.mem_of_getElem? (i := 719) (by decide +kernel), List.mem_of_getElem? (i := 720) (by decide +kernel)⟩
theorem lw_p27 : lw_okq (⟨"CombedLightModel", "ray", "(IIIII)I"⟩, 30) := ⟨⟨by decide +kernel, by decide +kernel⟩, List.mem_of_getElem? (i := 514) (by decide +kernel), List.mem_of_getElem? (i := 723) (by decide +kernel), List.mem_of_getElem? (i := 724) (by decide +kernel)⟩
theorem lw_p28 : lw_okq (⟨"CombedLightModel", "isUsed", "(III)Z"⟩, 30) := ⟨⟨by decide +kernel, by decide +kernel⟩, List.mem_of_getElem? (i := 514) (by decide +kernel), List.mem_of_getElem? (i := 727) (by decide +kernel), List.mem_of_getElem? (i := 728) (by decide +kernel)⟩
theorem lw_p29 : lw_okq (⟨"CombedLightModel", "find", "(IJ)V"⟩, 30) := ⟨⟨by decide +kernel, by decide +kernel⟩, List.mem_of_getElem? (i := 514) (by decide +kernel), List.mem_of_getElem? (i := 741) (by decide +kernel), List.mem_of_getElem? (i := 742) (by decide +kernel)⟩
theorem lw_p30 : lw_okq (⟨"CombedLightModel", "tryLaw", "(IIIII)V"⟩, 30) := ⟨⟨by decide +kernel, by decide +kernel⟩, List.mem_of_getElem? (i := 514) (by decide +kernel), List.mem_of_getElem? (i := 764) (by decide +kernel), List.mem_of_getElem? (i := 765) (by decide +kernel)⟩
theorem lw_p31 : lw_okq (⟨"CombedLightModel", "fitting", "(JJI)I"⟩, 30) := ⟨⟨by decide +kernel, by decide +kernel⟩, List.mem_of_getElem? (i := 514) (by decide +kernel), List.mem_of_getElem? (i := 769) (by decide +kernel), List.mem_of_getElem? (i := 770) (by decide +kernel)⟩
def lw_privs_2 : List (MethodName × Nat) := [(⟨"CombedLight", "badCount", "()I"⟩, 15), (⟨"CombedLightModel", "met", "(I)I"⟩, 30), (⟨"CombedLightModel", "isPlace", "(III)Z"⟩, 30), (⟨"CombedLightModel", "isLike", "(II)Z"⟩, 30), (⟨"CombedLightModel", "isComb", "(I)Z"⟩, 30), (⟨"CombedLightModel", "firstRow", "(III)I"⟩, 30), (⟨"CombedLightModel", "middle", "(III)I"⟩, 30), (⟨"CombedLightModel", "lastRow", "(III)I"⟩, 30), (⟨"CombedLightModel", "lightAt", "(III)I"⟩, 30), (⟨"CombedLightModel", "bounded", "(I)J"⟩, 30), (⟨"CombedLightModel", "drawn", "(IIIII)J"⟩, 30), (⟨"CombedLightModel", "ray", "(IIIII)I"⟩, 30), (⟨"CombedLightModel", "isUsed", "(III)Z"⟩, 30), (⟨"CombedLightModel", "find", "(IJ)V"⟩, 30), (⟨"CombedLightModel", "tryLaw", "(IIIII)V"⟩, 30), (⟨"CombedLightModel", "fitting", "(JJI)I"⟩, 30)]
theorem lw_r2 : ∀ q ∈ lw_privs_2, lw_okq q := List.forall_mem_cons.mpr ⟨lw_p16, List.forall_mem_cons.mpr ⟨lw_p17, List.forall_mem_cons.mpr ⟨lw_p18, List.forall_mem_cons.mpr ⟨lw_p19, List.forall_mem_cons.mpr ⟨lw_p20, List.forall_mem_cons.mpr ⟨lw_p21, List.forall_mem_cons.mpr ⟨lw_p22, List.forall_mem_cons.mpr ⟨lw_p23, List.forall_mem_cons.mpr ⟨lw_p24, List.forall_mem_cons.mpr ⟨lw_p25, List.forall_mem_cons.mpr ⟨lw_p26, List.forall_mem_cons.mpr ⟨lw_p27, List.forall_mem_cons.mpr ⟨lw_p28, List.forall_mem_cons.mpr ⟨lw_p29, List.forall_mem_cons.mpr ⟨lw_p30, List.forall_mem_cons.mpr ⟨lw_p31, fun _ h => absurd h List.not_mem_nil⟩⟩⟩⟩⟩⟩⟩⟩⟩⟩⟩⟩⟩⟩⟩⟩
theorem lw_p32 : lw_okq (⟨"CombedLightModel", "columnFor", "(IJ)I"⟩, 30) := ⟨⟨by decide +kernel, by decide +kernel⟩, List.mem_of_getElem? (i := 514) (by decide +kernel), List.mem_of_getElem? (i := 797) (by decide +kernel), List.mem_of_getElem? (i := 798) (by decide +kernel)⟩
theorem lw_p33 : lw_okq (⟨"CombedLightModel", "shiftOf", "(III)J"⟩, 30) := ⟨⟨by decide +kernel, by decide +kernel⟩, List.mem_of_getElem? (i := 514) (by decide +kernel), List.mem_of_getElem? (i := 810) (by decide +kernel), List.mem_of_getElem? (i := 811) (by decide +kernel)⟩
theorem lw_p34 : lw_okq (⟨"CombedLightModel", "mix", "(J)V"⟩, 30) := ⟨⟨by decide +kernel, by decide +kernel⟩, List.mem_of_getElem? (i := 514) (by decide +kernel), List.mem_of_getElem? (i := 837) (by decide +kernel), List.mem_of_getElem? (i := 838) (by decide +kernel)⟩
def lw_privs_3 : List (MethodName × Nat) := [(⟨"CombedLightModel", "columnFor", "(IJ)I"⟩, 30), (⟨"CombedLightModel", "shiftOf", "(III)J"⟩, 30), (⟨"CombedLightModel", "mix", "(J)V"⟩, 30)]
theorem lw_r3 : ∀ q ∈ lw_privs_3, lw_okq q := List.forall_mem_cons.mpr ⟨lw_p32, List.forall_mem_cons.mpr ⟨lw_p33, List.forall_mem_cons.mpr ⟨lw_p34, fun _ h => absurd h List.not_mem_nil⟩⟩⟩
def lw_privs : List (MethodName × Nat) := lw_privs_1 ++ (lw_privs_2 ++ (lw_privs_3))
def lw_tbl : List Cond := k2_sels lw_privs ++ tables_1
theorem lw_privs_ok : ∀ q ∈ lw_privs, lw_okq q := by
  show ∀ q ∈ lw_privs_1 ++ (lw_privs_2 ++ (lw_privs_3)), lw_okq q
  exact List.forall_mem_append.mpr ⟨lw_r1, List.forall_mem_append.mpr ⟨lw_r2, lw_r3⟩⟩
end
section

def RX0 : String := "CombedLight$Comb"
def TX0 : u_T := fun k => match k with
  | 0 => ("CombedLight$Comb", "a", "I", false)
  | 1 => ("CombedLight$Comb", "b", "I", false)
  | 2 => ("CombedLight$Comb", "\x72", "I", false)
  | 3 => ("CombedLight$Comb", "columns", "I", false)
  | 4 => ("CombedLight$Comb", "numbers", "[J", true)
  | _ => ("CombedLight$Comb", "law", "LCombedLight$Law;", true)
def tyX0 : Nat → FieldType := fun k => match k with
  | 0 => .int
  | 1 => .int
  | 2 => .int
  | 3 => .int
  | 4 => .array .long
  | _ => .object "CombedLight$Law"
abbrev wsX00 : List Cond := u_ws RX0 TX0 6
theorem nmX0 : ∀ a, a < 6 → ∀ b, b < 6 → a ≠ b → (TX0 a).2.1 ≠ (TX0 b).2.1 := by decide +kernel
theorem tyX0_ok : ∀ k, k < 6 → parseFieldDescriptor (TX0 k).2.2.1 = some (tyX0 k) := by decide +kernel
abbrev cX0_init : ByteArray := prog_2_method_1_code
def yX0_init : MethodName := ⟨RX0, "<init>", "()V"⟩
abbrev cX0_middleRow : ByteArray := prog_2_method_2_code
def yX0_middleRow : MethodName := ⟨RX0, "middleRow", "(II)I"⟩
abbrev cX0_leastRow : ByteArray := prog_2_method_3_code
def yX0_leastRow : MethodName := ⟨RX0, "leastRow", "(ILCombedLight$Plate;)I"⟩
abbrev cX0_greatestRow : ByteArray := prog_2_method_4_code
def yX0_greatestRow : MethodName := ⟨RX0, "greatestRow", "(ILCombedLight$Plate;)I"⟩
abbrev cX0_has : ByteArray := prog_2_method_5_code
def yX0_has : MethodName := ⟨RX0, "has", "(I)Z"⟩
abbrev cX0_at : ByteArray := prog_2_method_6_code
def yX0_at : MethodName := ⟨RX0, "at", "(I)J"⟩
abbrev cX0_isPeak : ByteArray := prog_2_method_7_code
def yX0_isPeak : MethodName := ⟨RX0, "isPeak", "(IJ)Z"⟩
abbrev cX0_placeOfPeak : ByteArray := prog_2_method_8_code
def yX0_placeOfPeak : MethodName := ⟨RX0, "placeOfPeak", "(I)I"⟩
def RX1 : String := "CombedLight$Law"
def TX1 : u_T := fun k => match k with
  | 0 => ("CombedLight$Law", "is", "Z", false)
  | 1 => ("CombedLight$Law", "a", "I", false)
  | 2 => ("CombedLight$Law", "b", "I", false)
  | _ => ("CombedLight$Law", "fitted", "I", false)
def tyX1 : Nat → FieldType := fun k => match k with
  | 0 => .boolean
  | 1 => .int
  | 2 => .int
  | _ => .int
abbrev wsX10 : List Cond := u_ws RX1 TX1 4
theorem nmX1 : ∀ a, a < 4 → ∀ b, b < 4 → a ≠ b → (TX1 a).2.1 ≠ (TX1 b).2.1 := by decide +kernel
theorem tyX1_ok : ∀ k, k < 4 → parseFieldDescriptor (TX1 k).2.2.1 = some (tyX1 k) := by decide +kernel
abbrev cX1_init : ByteArray := prog_3_method_1_code
def yX1_init : MethodName := ⟨RX1, "<init>", "()V"⟩
abbrev cX1_become : ByteArray := prog_3_method_2_code
def yX1_become : MethodName := ⟨RX1, "become", "(III)V"⟩
abbrev cX1_drop : ByteArray := prog_3_method_3_code
def yX1_drop : MethodName := ⟨RX1, "drop", "()V"⟩
abbrev cX1_losesTo : ByteArray := prog_3_method_4_code
def yX1_losesTo : MethodName := ⟨RX1, "losesTo", "(III)Z"⟩
def RX2 : String := "CombedLight$Plate"
def TX2 : u_T := fun k => match k with
  | 0 => ("CombedLight$Plate", "lost", "Z", false)
  | 1 => ("CombedLight$Plate", "lane", "I", false)
  | 2 => ("CombedLight$Plate", "w", "I", false)
  | 3 => ("CombedLight$Plate", "h", "I", false)
  | _ => ("CombedLight$Plate", "counts", "[I", true)
def tyX2 : Nat → FieldType := fun k => match k with
  | 0 => .boolean
  | 1 => .int
  | 2 => .int
  | 3 => .int
  | _ => .array .int
abbrev wsX20 : List Cond := u_ws RX2 TX2 5
theorem nmX2 : ∀ a, a < 5 → ∀ b, b < 5 → a ≠ b → (TX2 a).2.1 ≠ (TX2 b).2.1 := by decide +kernel
theorem tyX2_ok : ∀ k, k < 5 → parseFieldDescriptor (TX2 k).2.2.1 = some (tyX2 k) := by decide +kernel
abbrev cX2_init : ByteArray := prog_4_method_1_code
def yX2_init : MethodName := ⟨RX2, "<init>", "()V"⟩
abbrev cX2_renew : ByteArray := prog_4_method_2_code
def yX2_renew : MethodName := ⟨RX2, "renew", "(III)V"⟩
abbrev cX2_holds : ByteArray := prog_4_method_3_code
def yX2_holds : MethodName := ⟨RX2, "holds", "(II)Z"⟩
abbrev cX2_at : ByteArray := prog_4_method_4_code
def yX2_at : MethodName := ⟨RX2, "at", "(II)I"⟩
abbrev cX2_set : ByteArray := prog_4_method_5_code
def yX2_set : MethodName := ⟨RX2, "set", "(III)V"⟩
abbrev cX2_lightAt : ByteArray := prog_4_method_6_code
def yX2_lightAt : MethodName := ⟨RX2, "lightAt", "(II)J"⟩
abbrev cX2_alike : ByteArray := prog_4_method_7_code
def yX2_alike : MethodName := ⟨RX2, "alike", "(LCombedLight$Plate;)Z"⟩
def RX3 : String := "CombedLight$Sums"
def TX3 : u_T := fun k => match k with
  | 0 => ("CombedLight$Sums", "rows", "I", false)
  | 1 => ("CombedLight$Sums", "light", "J", false)
  | 2 => ("CombedLight$Sums", "flat", "J", false)
  | 3 => ("CombedLight$Sums", "squares", "J", false)
  | _ => ("CombedLight$Sums", "products", "J", false)
def tyX3 : Nat → FieldType := fun k => match k with
  | 0 => .int
  | 1 => .long
  | 2 => .long
  | 3 => .long
  | _ => .long
abbrev wsX30 : List Cond := u_ws RX3 TX3 5
theorem nmX3 : ∀ a, a < 5 → ∀ b, b < 5 → a ≠ b → (TX3 a).2.1 ≠ (TX3 b).2.1 := by decide +kernel
theorem tyX3_ok : ∀ k, k < 5 → parseFieldDescriptor (TX3 k).2.2.1 = some (tyX3 k) := by decide +kernel
abbrev cX3_init : ByteArray := prog_5_method_1_code
def yX3_init : MethodName := ⟨RX3, "<init>", "()V"⟩
abbrev cX3_empty : ByteArray := prog_5_method_2_code
def yX3_empty : MethodName := ⟨RX3, "empty", "()V"⟩
abbrev cX3_take : ByteArray := prog_5_method_3_code
def yX3_take : MethodName := ⟨RX3, "take", "(JJ)V"⟩
abbrev cX3_quotient : ByteArray := prog_5_method_4_code
def yX3_quotient : MethodName := ⟨RX3, "quotient", "()J"⟩
def RX4 : String := "CombedLight"
def TX4 : u_T := fun k => match k with
  | 0 => ("CombedLight", "plates", "[LCombedLight$Plate;", true)
  | 1 => ("CombedLight", "badCells", "[Z", true)
  | 2 => ("CombedLight", "combs", "[LCombedLight$Comb;", true)
  | 3 => ("CombedLight", "combCount", "I", false)
  | 4 => ("CombedLight", "lines", "[I", true)
  | 5 => ("CombedLight", "lineCount", "I", false)
  | 6 => ("CombedLight", "grid", "[J", true)
  | 7 => ("CombedLight", "gridCount", "I", false)
  | 8 => ("CombedLight", "seenNumber", "I", false)
  | 9 => ("CombedLight", "latestCause", "I", false)
  | 10 => ("CombedLight", "causeCounts", "[I", true)
  | 11 => ("CombedLight", "matchesDone", "I", false)
  | 12 => ("CombedLight", "places", "[I", true)
  | 13 => ("CombedLight", "sums", "LCombedLight$Sums;", true)
  | _ => ("CombedLight", "bestLaw", "LCombedLight$Law;", true)
def tyX4 : Nat → FieldType := fun k => match k with
  | 0 => .array (.object "CombedLight$Plate")
  | 1 => .array .boolean
  | 2 => .array (.object "CombedLight$Comb")
  | 3 => .int
  | 4 => .array .int
  | 5 => .int
  | 6 => .array .long
  | 7 => .int
  | 8 => .int
  | 9 => .int
  | 10 => .array .int
  | 11 => .int
  | 12 => .array .int
  | 13 => .object "CombedLight$Sums"
  | _ => .object "CombedLight$Law"
abbrev wsX40 : List Cond := u_ws RX4 TX4 15
theorem nmX4 : ∀ a, a < 15 → ∀ b, b < 15 → a ≠ b → (TX4 a).2.1 ≠ (TX4 b).2.1 := by decide +kernel
theorem tyX4_ok : ∀ k, k < 15 → parseFieldDescriptor (TX4 k).2.2.1 = some (tyX4 k) := by decide +kernel
abbrev cX4_init : ByteArray := prog_1_method_1_code
def yX4_init : MethodName := ⟨RX4, "<init>", "()V"⟩
abbrev cX4_plate : ByteArray := prog_1_method_2_code
def yX4_plate : MethodName := ⟨RX4, "plate", "(IIII)I"⟩
abbrev cX4_put : ByteArray := prog_1_method_3_code
def yX4_put : MethodName := ⟨RX4, "put", "(IIIII)I"⟩
abbrev cX4_copy : ByteArray := prog_1_method_4_code
def yX4_copy : MethodName := ⟨RX4, "copy", "(II)I"⟩
abbrev cX4_less : ByteArray := prog_1_method_5_code
def yX4_less : MethodName := ⟨RX4, "less", "(II)I"⟩
abbrev cX4_lose : ByteArray := prog_1_method_6_code
def yX4_lose : MethodName := ⟨RX4, "lose", "(I)I"⟩
abbrev cX4_bad : ByteArray := prog_1_method_7_code
def yX4_bad : MethodName := ⟨RX4, "bad", "(IIZ)I"⟩
abbrev cX4_look : ByteArray := prog_1_method_8_code
def yX4_look : MethodName := ⟨RX4, "look", "(III)I"⟩
abbrev cX4_comb : ByteArray := prog_1_method_9_code
def yX4_comb : MethodName := ⟨RX4, "comb", "(III)I"⟩
abbrev cX4_told : ByteArray := prog_1_method_10_code
def yX4_told : MethodName := ⟨RX4, "told", "(II)I"⟩
abbrev cX4_band : ByteArray := prog_1_method_11_code
def yX4_band : MethodName := ⟨RX4, "band", "(IIII)I"⟩
abbrev cX4_trace : ByteArray := prog_1_method_12_code
def yX4_trace : MethodName := ⟨RX4, "trace", "(II)I"⟩
abbrev cX4_draw : ByteArray := prog_1_method_13_code
def yX4_draw : MethodName := ⟨RX4, "draw", "(IIII)I"⟩
abbrev cX4_number : ByteArray := prog_1_method_14_code
def yX4_number : MethodName := ⟨RX4, "number", "(II)J"⟩
abbrev cX4_peaks : ByteArray := prog_1_method_15_code
def yX4_peaks : MethodName := ⟨RX4, "peaks", "(IJ)I"⟩
abbrev cX4_peak : ByteArray := prog_1_method_16_code
def yX4_peak : MethodName := ⟨RX4, "peak", "(IJI)I"⟩
abbrev cX4_line : ByteArray := prog_1_method_17_code
def yX4_line : MethodName := ⟨RX4, "line", "(I)I"⟩
abbrev cX4_clear : ByteArray := prog_1_method_18_code
def yX4_clear : MethodName := ⟨RX4, "clear", "()I"⟩
abbrev cX4_match : ByteArray := prog_1_method_19_code
def yX4_match : MethodName := ⟨RX4, "match", "(IJI)I"⟩
abbrev cX4_law : ByteArray := prog_1_method_20_code
def yX4_law : MethodName := ⟨RX4, "law", "(III)I"⟩
abbrev cX4_wave : ByteArray := prog_1_method_21_code
def yX4_wave : MethodName := ⟨RX4, "wave", "(II)I"⟩
abbrev cX4_join : ByteArray := prog_1_method_22_code
def yX4_join : MethodName := ⟨RX4, "join", "(III)I"⟩
abbrev cX4_joined : ByteArray := prog_1_method_23_code
def yX4_joined : MethodName := ⟨RX4, "joined", "(I)J"⟩
abbrev cX4_shift : ByteArray := prog_1_method_24_code
def yX4_shift : MethodName := ⟨RX4, "shift", "(III)J"⟩
abbrev cX4_best : ByteArray := prog_1_method_25_code
def yX4_best : MethodName := ⟨RX4, "best", "(II)I"⟩
abbrev cX4_seen : ByteArray := prog_1_method_26_code
def yX4_seen : MethodName := ⟨RX4, "seen", "()I"⟩
abbrev cX4_cause : ByteArray := prog_1_method_27_code
def yX4_cause : MethodName := ⟨RX4, "cause", "()I"⟩
abbrev cX4_causes : ByteArray := prog_1_method_28_code
def yX4_causes : MethodName := ⟨RX4, "causes", "(I)I"⟩
abbrev cX4_count : ByteArray := prog_1_method_29_code
def yX4_count : MethodName := ⟨RX4, "count", "(I)I"⟩
abbrev cX4_digest : ByteArray := prog_1_method_30_code
def yX4_digest : MethodName := ⟨RX4, "digest", "()J"⟩
abbrev cX4_within : ByteArray := prog_1_method_31_code
def yX4_within : MethodName := ⟨RX4, "within", "(III)Z"⟩
abbrev cX4_isLane : ByteArray := prog_1_method_32_code
def yX4_isLane : MethodName := ⟨RX4, "isLane", "(I)Z"⟩
abbrev cX4_isCell : ByteArray := prog_1_method_33_code
def yX4_isCell : MethodName := ⟨RX4, "isCell", "(II)Z"⟩
abbrev cX4_castToLane : ByteArray := prog_1_method_34_code
def yX4_castToLane : MethodName := ⟨RX4, "castToLane", "(II)I"⟩
abbrev cX4_plateOf : ByteArray := prog_1_method_35_code
def yX4_plateOf : MethodName := ⟨RX4, "plateOf", "(I)LCombedLight$Plate;"⟩
abbrev cX4_combOf : ByteArray := prog_1_method_36_code
def yX4_combOf : MethodName := ⟨RX4, "combOf", "(I)LCombedLight$Comb;"⟩
abbrev cX4_caused : ByteArray := prog_1_method_37_code
def yX4_caused : MethodName := ⟨RX4, "caused", "(I)I"⟩
abbrev cX4_isBad : ByteArray := prog_1_method_38_code
def yX4_isBad : MethodName := ⟨RX4, "isBad", "(II)Z"⟩
abbrev cX4_fact : ByteArray := prog_1_method_39_code
def yX4_fact : MethodName := ⟨RX4, "fact", "(LCombedLight$Comb;I)I"⟩
abbrev cX4_middleOfLight : ByteArray := prog_1_method_40_code
def yX4_middleOfLight : MethodName := ⟨RX4, "middleOfLight", "(LCombedLight$Comb;LCombedLight$Plate;I)I"⟩
abbrev cX4_drawnNumber : ByteArray := prog_1_method_41_code
def yX4_drawnNumber : MethodName := ⟨RX4, "drawnNumber", "(LCombedLight$Comb;LCombedLight$Plate;LCombedLight$Plate;II)J"⟩
abbrev cX4_sumColumn : ByteArray := prog_1_method_42_code
def yX4_sumColumn : MethodName := ⟨RX4, "sumColumn", "(LCombedLight$Comb;LCombedLight$Plate;LCombedLight$Plate;II)V"⟩
abbrev cX4_counts : ByteArray := prog_1_method_43_code
def yX4_counts : MethodName := ⟨RX4, "counts", "(LCombedLight$Plate;II)Z"⟩
abbrev cX4_rayRow : ByteArray := prog_1_method_44_code
def yX4_rayRow : MethodName := ⟨RX4, "rayRow", "(LCombedLight$Comb;LCombedLight$Plate;LCombedLight$Plate;II)I"⟩
abbrev cX4_findPlaces : ByteArray := prog_1_method_45_code
def yX4_findPlaces : MethodName := ⟨RX4, "findPlaces", "(LCombedLight$Comb;J)I"⟩
abbrev cX4_waveAt : ByteArray := prog_1_method_46_code
def yX4_waveAt : MethodName := ⟨RX4, "waveAt", "(JJI)J"⟩
abbrev cX4_tryPair : ByteArray := prog_1_method_47_code
def yX4_tryPair : MethodName := ⟨RX4, "tryPair", "(IIII)V"⟩
abbrev cX4_offer : ByteArray := prog_1_method_48_code
def yX4_offer : MethodName := ⟨RX4, "offer", "(IIII)V"⟩
abbrev cX4_nearLine : ByteArray := prog_1_method_49_code
def yX4_nearLine : MethodName := ⟨RX4, "nearLine", "(JI)Z"⟩
abbrev cX4_joinAt : ByteArray := prog_1_method_50_code
def yX4_joinAt : MethodName := ⟨RX4, "joinAt", "(IJ)Z"⟩
abbrev cX4_columnAt : ByteArray := prog_1_method_51_code
def yX4_columnAt : MethodName := ⟨RX4, "columnAt", "(LCombedLight$Comb;J)I"⟩
abbrev cX4_crossSum : ByteArray := prog_1_method_52_code
def yX4_crossSum : MethodName := ⟨RX4, "crossSum", "(LCombedLight$Comb;LCombedLight$Comb;I)J"⟩
abbrev cX4_plateCount : ByteArray := prog_1_method_53_code
def yX4_plateCount : MethodName := ⟨RX4, "plateCount", "()I"⟩
abbrev cX4_badCount : ByteArray := prog_1_method_54_code
def yX4_badCount : MethodName := ⟨RX4, "badCount", "()I"⟩
abbrev cX4_lawCount : ByteArray := prog_1_method_55_code
def yX4_lawCount : MethodName := ⟨RX4, "lawCount", "()I"⟩
abbrev cX4_mix : ByteArray := prog_1_method_56_code
def yX4_mix : MethodName := ⟨RX4, "mix", "(JJ)J"⟩
abbrev cX4_digestPlate : ByteArray := prog_1_method_57_code
def yX4_digestPlate : MethodName := ⟨RX4, "digestPlate", "(JLCombedLight$Plate;)J"⟩
abbrev cX4_digestComb : ByteArray := prog_1_method_58_code
def yX4_digestComb : MethodName := ⟨RX4, "digestComb", "(JLCombedLight$Comb;)J"⟩
def RX5 : String := "CombedLightModel"
def TX5 : u_T := fun k => match k with
  | 0 => ("CombedLightModel", "isThere", "[Z", true)
  | 1 => ("CombedLightModel", "lanes", "[I", true)
  | 2 => ("CombedLightModel", "wide", "[I", true)
  | 3 => ("CombedLightModel", "high", "[I", true)
  | 4 => ("CombedLightModel", "counts", "[I", true)
  | 5 => ("CombedLightModel", "isBad", "[Z", true)
  | 6 => ("CombedLightModel", "combs", "I", false)
  | 7 => ("CombedLightModel", "as", "[I", true)
  | 8 => ("CombedLightModel", "bs", "[I", true)
  | 9 => ("CombedLightModel", "rs", "[I", true)
  | 10 => ("CombedLightModel", "columns", "[I", true)
  | 11 => ("CombedLightModel", "rows", "[J", true)
  | 12 => ("CombedLightModel", "hasLaw", "[Z", true)
  | 13 => ("CombedLightModel", "lawA", "[I", true)
  | 14 => ("CombedLightModel", "lawB", "[I", true)
  | 15 => ("CombedLightModel", "lawFits", "[I", true)
  | 16 => ("CombedLightModel", "lines", "I", false)
  | 17 => ("CombedLightModel", "line", "[I", true)
  | 18 => ("CombedLightModel", "matches", "I", false)
  | 19 => ("CombedLightModel", "joinedMany", "I", false)
  | 20 => ("CombedLightModel", "joinedRow", "[J", true)
  | 21 => ("CombedLightModel", "seen", "I", false)
  | 22 => ("CombedLightModel", "cause", "I", false)
  | 23 => ("CombedLightModel", "causes", "[I", true)
  | 24 => ("CombedLightModel", "peakMany", "I", false)
  | 25 => ("CombedLightModel", "peakPlace", "[I", true)
  | 26 => ("CombedLightModel", "most", "I", false)
  | 27 => ("CombedLightModel", "bestA", "J", false)
  | 28 => ("CombedLightModel", "bestB", "J", false)
  | _ => ("CombedLightModel", "h", "J", false)
def tyX5 : Nat → FieldType := fun k => match k with
  | 0 => .array .boolean
  | 1 => .array .int
  | 2 => .array .int
  | 3 => .array .int
  | 4 => .array .int
  | 5 => .array .boolean
  | 6 => .int
  | 7 => .array .int
  | 8 => .array .int
  | 9 => .array .int
  | 10 => .array .int
  | 11 => .array .long
  | 12 => .array .boolean
  | 13 => .array .int
  | 14 => .array .int
  | 15 => .array .int
  | 16 => .int
  | 17 => .array .int
  | 18 => .int
  | 19 => .int
  | 20 => .array .long
  | 21 => .int
  | 22 => .int
  | 23 => .array .int
  | 24 => .int
  | 25 => .array .int
  | 26 => .int
  | 27 => .long
  | 28 => .long
  | _ => .long
abbrev wsX50 : List Cond := u_ws RX5 TX5 30
theorem nmX5 : ∀ a, a < 30 → ∀ b, b < 30 → a ≠ b → (TX5 a).2.1 ≠ (TX5 b).2.1 := by decide +kernel
theorem tyX5_ok : ∀ k, k < 30 → parseFieldDescriptor (TX5 k).2.2.1 = some (tyX5 k) := by decide +kernel
abbrev cX5_init : ByteArray := prog_7_method_1_code
def yX5_init : MethodName := ⟨RX5, "<init>", "()V"⟩
abbrev cX5_in : ByteArray := prog_7_method_3_code
def yX5_in : MethodName := ⟨RX5, "in", "(JJJ)Z"⟩
abbrev cX5_met : ByteArray := prog_7_method_4_code
def yX5_met : MethodName := ⟨RX5, "met", "(I)I"⟩
abbrev cX5_floor : ByteArray := prog_7_method_5_code
def yX5_floor : MethodName := ⟨RX5, "floor", "(JJ)J"⟩
abbrev cX5_isPlate : ByteArray := prog_7_method_6_code
def yX5_isPlate : MethodName := ⟨RX5, "isPlate", "(I)Z"⟩
abbrev cX5_isComb : ByteArray := prog_7_method_7_code
def yX5_isComb : MethodName := ⟨RX5, "isComb", "(I)Z"⟩
abbrev cX5_plate : ByteArray := prog_7_method_8_code
def yX5_plate : MethodName := ⟨RX5, "plate", "(IIII)I"⟩
abbrev cX5_cast : ByteArray := prog_7_method_9_code
def yX5_cast : MethodName := ⟨RX5, "cast", "(II)I"⟩
abbrev cX5_isPlace : ByteArray := prog_7_method_10_code
def yX5_isPlace : MethodName := ⟨RX5, "isPlace", "(III)Z"⟩
abbrev cX5_place : ByteArray := prog_7_method_11_code
def yX5_place : MethodName := ⟨RX5, "place", "(III)I"⟩
abbrev cX5_put : ByteArray := prog_7_method_12_code
def yX5_put : MethodName := ⟨RX5, "put", "(IIIII)I"⟩
abbrev cX5_isLike : ByteArray := prog_7_method_13_code
def yX5_isLike : MethodName := ⟨RX5, "isLike", "(II)Z"⟩
abbrev cX5_copy : ByteArray := prog_7_method_14_code
def yX5_copy : MethodName := ⟨RX5, "copy", "(II)I"⟩
abbrev cX5_less : ByteArray := prog_7_method_15_code
def yX5_less : MethodName := ⟨RX5, "less", "(II)I"⟩
abbrev cX5_lose : ByteArray := prog_7_method_16_code
def yX5_lose : MethodName := ⟨RX5, "lose", "(I)I"⟩
abbrev cX5_bad : ByteArray := prog_7_method_17_code
def yX5_bad : MethodName := ⟨RX5, "bad", "(IIZ)I"⟩
abbrev cX5_look : ByteArray := prog_7_method_18_code
def yX5_look : MethodName := ⟨RX5, "look", "(III)I"⟩
abbrev cX5_comb : ByteArray := prog_7_method_19_code
def yX5_comb : MethodName := ⟨RX5, "comb", "(III)I"⟩
abbrev cX5_told : ByteArray := prog_7_method_20_code
def yX5_told : MethodName := ⟨RX5, "told", "(II)I"⟩
abbrev cX5_middle : ByteArray := prog_7_method_21_code
def yX5_middle : MethodName := ⟨RX5, "middle", "(III)I"⟩
abbrev cX5_firstRow : ByteArray := prog_7_method_22_code
def yX5_firstRow : MethodName := ⟨RX5, "firstRow", "(III)I"⟩
abbrev cX5_lastRow : ByteArray := prog_7_method_23_code
def yX5_lastRow : MethodName := ⟨RX5, "lastRow", "(III)I"⟩
abbrev cX5_band : ByteArray := prog_7_method_24_code
def yX5_band : MethodName := ⟨RX5, "band", "(IIII)I"⟩
abbrev cX5_lightAt : ByteArray := prog_7_method_25_code
def yX5_lightAt : MethodName := ⟨RX5, "lightAt", "(III)I"⟩
abbrev cX5_trace : ByteArray := prog_7_method_26_code
def yX5_trace : MethodName := ⟨RX5, "trace", "(II)I"⟩
abbrev cX5_bounded : ByteArray := prog_7_method_27_code
def yX5_bounded : MethodName := ⟨RX5, "bounded", "(I)J"⟩
abbrev cX5_isUsed : ByteArray := prog_7_method_28_code
def yX5_isUsed : MethodName := ⟨RX5, "isUsed", "(III)Z"⟩
abbrev cX5_ray : ByteArray := prog_7_method_29_code
def yX5_ray : MethodName := ⟨RX5, "ray", "(IIIII)I"⟩
abbrev cX5_drawn : ByteArray := prog_7_method_30_code
def yX5_drawn : MethodName := ⟨RX5, "drawn", "(IIIII)J"⟩
abbrev cX5_draw : ByteArray := prog_7_method_31_code
def yX5_draw : MethodName := ⟨RX5, "draw", "(IIII)I"⟩
abbrev cX5_number : ByteArray := prog_7_method_32_code
def yX5_number : MethodName := ⟨RX5, "number", "(II)J"⟩
abbrev cX5_find : ByteArray := prog_7_method_33_code
def yX5_find : MethodName := ⟨RX5, "find", "(IJ)V"⟩
abbrev cX5_peaks : ByteArray := prog_7_method_34_code
def yX5_peaks : MethodName := ⟨RX5, "peaks", "(IJ)I"⟩
abbrev cX5_peak : ByteArray := prog_7_method_35_code
def yX5_peak : MethodName := ⟨RX5, "peak", "(IJI)I"⟩
abbrev cX5_line : ByteArray := prog_7_method_36_code
def yX5_line : MethodName := ⟨RX5, "line", "(I)I"⟩
abbrev cX5_clear : ByteArray := prog_7_method_37_code
def yX5_clear : MethodName := ⟨RX5, "clear", "()I"⟩
abbrev cX5_waveOf : ByteArray := prog_7_method_38_code
def yX5_waveOf : MethodName := ⟨RX5, "waveOf", "(JJI)J"⟩
abbrev cX5_fitting : ByteArray := prog_7_method_39_code
def yX5_fitting : MethodName := ⟨RX5, "fitting", "(JJI)I"⟩
abbrev cX5_tryLaw : ByteArray := prog_7_method_40_code
def yX5_tryLaw : MethodName := ⟨RX5, "tryLaw", "(IIIII)V"⟩
abbrev cX5_match : ByteArray := prog_7_method_41_code
def yX5_match : MethodName := ⟨RX5, "match", "(IJI)I"⟩
abbrev cX5_law : ByteArray := prog_7_method_42_code
def yX5_law : MethodName := ⟨RX5, "law", "(III)I"⟩
abbrev cX5_wave : ByteArray := prog_7_method_43_code
def yX5_wave : MethodName := ⟨RX5, "wave", "(II)I"⟩
abbrev cX5_columnFor : ByteArray := prog_7_method_44_code
def yX5_columnFor : MethodName := ⟨RX5, "columnFor", "(IJ)I"⟩
abbrev cX5_join : ByteArray := prog_7_method_45_code
def yX5_join : MethodName := ⟨RX5, "join", "(III)I"⟩
abbrev cX5_joined : ByteArray := prog_7_method_46_code
def yX5_joined : MethodName := ⟨RX5, "joined", "(I)J"⟩
abbrev cX5_shiftOf : ByteArray := prog_7_method_47_code
def yX5_shiftOf : MethodName := ⟨RX5, "shiftOf", "(III)J"⟩
abbrev cX5_shift : ByteArray := prog_7_method_48_code
def yX5_shift : MethodName := ⟨RX5, "shift", "(III)J"⟩
abbrev cX5_best : ByteArray := prog_7_method_49_code
def yX5_best : MethodName := ⟨RX5, "best", "(II)I"⟩
abbrev cX5_seen : ByteArray := prog_7_method_50_code
def yX5_seen : MethodName := ⟨RX5, "seen", "()I"⟩
abbrev cX5_cause : ByteArray := prog_7_method_51_code
def yX5_cause : MethodName := ⟨RX5, "cause", "()I"⟩
abbrev cX5_causes : ByteArray := prog_7_method_52_code
def yX5_causes : MethodName := ⟨RX5, "causes", "(I)I"⟩
abbrev cX5_count : ByteArray := prog_7_method_53_code
def yX5_count : MethodName := ⟨RX5, "count", "(I)I"⟩
abbrev cX5_mix : ByteArray := prog_7_method_54_code
def yX5_mix : MethodName := ⟨RX5, "mix", "(J)V"⟩
abbrev cX5_digest : ByteArray := prog_7_method_55_code
def yX5_digest : MethodName := ⟨RX5, "digest", "()J"⟩
def RJ9 : String := "java/lang/Math"
def TJ9 : u_T := fun k => match k with
  | _ => ("", "", "", false)
def tyJ9 : Nat → FieldType := fun k => match k with
  | _ => .int
abbrev wsJ90 : List Cond := u_ws RJ9 TJ9 0
theorem nmJ9 : ∀ a, a < 0 → ∀ b, b < 0 → a ≠ b → (TJ9 a).2.1 ≠ (TJ9 b).2.1 := by decide +kernel
theorem tyJ9_ok : ∀ k, k < 0 → parseFieldDescriptor (TJ9 k).2.2.1 = some (tyJ9 k) := by decide +kernel
abbrev cJ9_floorDiv_7cf53 : ByteArray := prog_8_method_47_code
def yJ9_floorDiv_7cf53 : MethodName := ⟨RJ9, "floorDiv", "(II)I"⟩
abbrev cJ9_floorDiv_f86c9 : ByteArray := prog_8_method_49_code
def yJ9_floorDiv_f86c9 : MethodName := ⟨RJ9, "floorDiv", "(JJ)J"⟩
abbrev cJ9_abs_067f4 : ByteArray := prog_8_method_61_code
def yJ9_abs_067f4 : MethodName := ⟨RJ9, "abs", "(J)J"⟩
abbrev cJ9_max_7cf53 : ByteArray := prog_8_method_65_code
def yJ9_max_7cf53 : MethodName := ⟨RJ9, "max", "(II)I"⟩
abbrev cJ9_min_7cf53 : ByteArray := prog_8_method_69_code
def yJ9_min_7cf53 : MethodName := ⟨RJ9, "min", "(II)I"⟩
def RJ7 : String := "java/util/Arrays"
def TJ7 : u_T := fun k => match k with
  | _ => ("", "", "", false)
def tyJ7 : Nat → FieldType := fun k => match k with
  | _ => .int
abbrev wsJ70 : List Cond := u_ws RJ7 TJ7 0
theorem nmJ7 : ∀ a, a < 0 → ∀ b, b < 0 → a ≠ b → (TJ7 a).2.1 ≠ (TJ7 b).2.1 := by decide +kernel
theorem tyJ7_ok : ∀ k, k < 0 → parseFieldDescriptor (TJ7 k).2.2.1 = some (tyJ7 k) := by decide +kernel
abbrev cJ7_fill_53178 : ByteArray := prog_9_method_103_code
def yJ7_fill_53178 : MethodName := ⟨RJ7, "fill", "([II)V"⟩
def RL : String := "CombedLightLaw"
abbrev cL_law : ByteArray := code
def yL_law : MethodName := ⟨RL, "law", "([I)Z"⟩
abbrev vwCl : List vw_C := [(RX0, TX0, 6), (RX1, TX1, 4), (RX2, TX2, 5), (RX3, TX3, 5), (RX4, TX4, 15), (RX5, TX5, 30)]
end
section
theorem dX0_init_0 : decode cX0_init 0 = .ok (.aload_n 0, 1) := by decide +kernel
theorem dX0_init_1 : decode cX0_init 1 = .ok (.invokespecial 3, 3) := by decide +kernel
theorem dX0_init_4 : decode cX0_init 4 = .ok (.aload_n 0, 1) := by decide +kernel
theorem dX0_init_5 : decode cX0_init 5 = .ok (.bipush 20, 2) := by decide +kernel
theorem dX0_init_7 : decode cX0_init 7 = .ok (.newarray .long, 2) := by decide +kernel
theorem dX0_init_9 : decode cX0_init 9 = .ok (.putfield 9, 3) := by decide +kernel
theorem dX0_init_12 : decode cX0_init 12 = .ok (.aload_n 0, 1) := by decide +kernel
theorem dX0_init_13 : decode cX0_init 13 = .ok (.new 15, 3) := by decide +kernel
theorem dX0_init_16 : decode cX0_init 16 = .ok (.dup, 1) := by decide +kernel
theorem dX0_init_17 : decode cX0_init 17 = .ok (.invokespecial 17, 3) := by decide +kernel
theorem dX0_init_20 : decode cX0_init 20 = .ok (.putfield 18, 3) := by decide +kernel
theorem dX0_init_23 : decode cX0_init 23 = .ok (.return_, 1) := by decide +kernel
theorem dX0_middleRow_0 : decode cX0_middleRow 0 = .ok (.aload_n 0, 1) := by decide +kernel
theorem dX0_middleRow_1 : decode cX0_middleRow 1 = .ok (.getfield 22, 3) := by decide +kernel
theorem dX0_middleRow_4 : decode cX0_middleRow 4 = .ok (.istore_n 3, 1) := by decide +kernel
theorem dX0_middleRow_5 : decode cX0_middleRow 5 = .ok (.iload_n 2, 1) := by decide +kernel
theorem dX0_middleRow_6 : decode cX0_middleRow 6 = .ok (.iconst 1, 1) := by decide +kernel
theorem dX0_middleRow_7 : decode cX0_middleRow 7 = .ok (.if_icmp .le 23, 3) := by decide +kernel
theorem dX0_middleRow_10 : decode cX0_middleRow 10 = .ok (.iload_n 3, 1) := by decide +kernel
theorem dX0_middleRow_11 : decode cX0_middleRow 11 = .ok (.aload_n 0, 1) := by decide +kernel
theorem dX0_middleRow_12 : decode cX0_middleRow 12 = .ok (.getfield 26, 3) := by decide +kernel
theorem dX0_middleRow_15 : decode cX0_middleRow 15 = .ok (.aload_n 0, 1) := by decide +kernel
theorem dX0_middleRow_16 : decode cX0_middleRow 16 = .ok (.getfield 22, 3) := by decide +kernel
theorem dX0_middleRow_19 : decode cX0_middleRow 19 = .ok (.isub, 1) := by decide +kernel
theorem dX0_middleRow_20 : decode cX0_middleRow 20 = .ok (.iload_n 1, 1) := by decide +kernel
theorem dX0_middleRow_21 : decode cX0_middleRow 21 = .ok (.imul, 1) := by decide +kernel
theorem dX0_middleRow_22 : decode cX0_middleRow 22 = .ok (.iload_n 2, 1) := by decide +kernel
theorem dX0_middleRow_23 : decode cX0_middleRow 23 = .ok (.iconst 1, 1) := by decide +kernel
theorem dX0_middleRow_24 : decode cX0_middleRow 24 = .ok (.isub, 1) := by decide +kernel
theorem dX0_middleRow_25 : decode cX0_middleRow 25 = .ok (.invokestatic 29, 3) := by decide +kernel
theorem dX0_middleRow_28 : decode cX0_middleRow 28 = .ok (.iadd, 1) := by decide +kernel
theorem dX0_middleRow_29 : decode cX0_middleRow 29 = .ok (.istore_n 3, 1) := by decide +kernel
theorem dX0_middleRow_30 : decode cX0_middleRow 30 = .ok (.iload_n 3, 1) := by decide +kernel
theorem dX0_middleRow_31 : decode cX0_middleRow 31 = .ok (.bipush 8, 2) := by decide +kernel
theorem dX0_middleRow_33 : decode cX0_middleRow 33 = .ok (.iadd, 1) := by decide +kernel
theorem dX0_middleRow_34 : decode cX0_middleRow 34 = .ok (.bipush 16, 2) := by decide +kernel
theorem dX0_middleRow_36 : decode cX0_middleRow 36 = .ok (.invokestatic 29, 3) := by decide +kernel
theorem dX0_middleRow_39 : decode cX0_middleRow 39 = .ok (.ireturn, 1) := by decide +kernel
theorem dX0_leastRow_0 : decode cX0_leastRow 0 = .ok (.iconst 0, 1) := by decide +kernel
theorem dX0_leastRow_1 : decode cX0_leastRow 1 = .ok (.aload_n 0, 1) := by decide +kernel
theorem dX0_leastRow_2 : decode cX0_leastRow 2 = .ok (.iload_n 1, 1) := by decide +kernel
theorem dX0_leastRow_3 : decode cX0_leastRow 3 = .ok (.aload_n 2, 1) := by decide +kernel
theorem dX0_leastRow_4 : decode cX0_leastRow 4 = .ok (.getfield 35, 3) := by decide +kernel
theorem dX0_leastRow_7 : decode cX0_leastRow 7 = .ok (.invokevirtual 40, 3) := by decide +kernel
theorem dX0_leastRow_10 : decode cX0_leastRow 10 = .ok (.aload_n 0, 1) := by decide +kernel
theorem dX0_leastRow_11 : decode cX0_leastRow 11 = .ok (.getfield 43, 3) := by decide +kernel
theorem dX0_leastRow_14 : decode cX0_leastRow 14 = .ok (.isub, 1) := by decide +kernel
theorem dX0_leastRow_15 : decode cX0_leastRow 15 = .ok (.invokestatic 46, 3) := by decide +kernel
theorem dX0_leastRow_18 : decode cX0_leastRow 18 = .ok (.ireturn, 1) := by decide +kernel
theorem dX0_greatestRow_0 : decode cX0_greatestRow 0 = .ok (.aload_n 2, 1) := by decide +kernel
theorem dX0_greatestRow_1 : decode cX0_greatestRow 1 = .ok (.getfield 49, 3) := by decide +kernel
theorem dX0_greatestRow_4 : decode cX0_greatestRow 4 = .ok (.iconst 1, 1) := by decide +kernel
theorem dX0_greatestRow_5 : decode cX0_greatestRow 5 = .ok (.isub, 1) := by decide +kernel
theorem dX0_greatestRow_6 : decode cX0_greatestRow 6 = .ok (.aload_n 0, 1) := by decide +kernel
theorem dX0_greatestRow_7 : decode cX0_greatestRow 7 = .ok (.iload_n 1, 1) := by decide +kernel
theorem dX0_greatestRow_8 : decode cX0_greatestRow 8 = .ok (.aload_n 2, 1) := by decide +kernel
theorem dX0_greatestRow_9 : decode cX0_greatestRow 9 = .ok (.getfield 35, 3) := by decide +kernel
theorem dX0_greatestRow_12 : decode cX0_greatestRow 12 = .ok (.invokevirtual 40, 3) := by decide +kernel
theorem dX0_greatestRow_15 : decode cX0_greatestRow 15 = .ok (.aload_n 0, 1) := by decide +kernel
theorem dX0_greatestRow_16 : decode cX0_greatestRow 16 = .ok (.getfield 43, 3) := by decide +kernel
theorem dX0_greatestRow_19 : decode cX0_greatestRow 19 = .ok (.iadd, 1) := by decide +kernel
theorem dX0_greatestRow_20 : decode cX0_greatestRow 20 = .ok (.invokestatic 52, 3) := by decide +kernel
theorem dX0_greatestRow_23 : decode cX0_greatestRow 23 = .ok (.ireturn, 1) := by decide +kernel
theorem dX0_has_0 : decode cX0_has 0 = .ok (.iload_n 1, 1) := by decide +kernel
theorem dX0_has_1 : decode cX0_has 1 = .ok (.ifCond .lt 24, 3) := by decide +kernel
theorem dX0_has_4 : decode cX0_has 4 = .ok (.iload_n 1, 1) := by decide +kernel
theorem dX0_has_5 : decode cX0_has 5 = .ok (.aload_n 0, 1) := by decide +kernel
theorem dX0_has_6 : decode cX0_has 6 = .ok (.getfield 55, 3) := by decide +kernel
theorem dX0_has_9 : decode cX0_has 9 = .ok (.if_icmp .ge 16, 3) := by decide +kernel
theorem dX0_has_12 : decode cX0_has 12 = .ok (.iload_n 1, 1) := by decide +kernel
theorem dX0_has_13 : decode cX0_has 13 = .ok (.aload_n 0, 1) := by decide +kernel
theorem dX0_has_14 : decode cX0_has 14 = .ok (.getfield 9, 3) := by decide +kernel
theorem dX0_has_17 : decode cX0_has 17 = .ok (.arraylength, 1) := by decide +kernel
theorem dX0_has_18 : decode cX0_has 18 = .ok (.if_icmp .ge 7, 3) := by decide +kernel
theorem dX0_has_21 : decode cX0_has 21 = .ok (.iconst 1, 1) := by decide +kernel
theorem dX0_has_22 : decode cX0_has 22 = .ok (.goto 4, 3) := by decide +kernel
theorem dX0_has_25 : decode cX0_has 25 = .ok (.iconst 0, 1) := by decide +kernel
theorem dX0_has_26 : decode cX0_has 26 = .ok (.ireturn, 1) := by decide +kernel
theorem dX0_at_0 : decode cX0_at 0 = .ok (.aload_n 0, 1) := by decide +kernel
theorem dX0_at_1 : decode cX0_at 1 = .ok (.iload_n 1, 1) := by decide +kernel
theorem dX0_at_2 : decode cX0_at 2 = .ok (.invokevirtual 58, 3) := by decide +kernel
theorem dX0_at_5 : decode cX0_at 5 = .ok (.ifCond .eq 12, 3) := by decide +kernel
theorem dX0_at_8 : decode cX0_at 8 = .ok (.aload_n 0, 1) := by decide +kernel
theorem dX0_at_9 : decode cX0_at 9 = .ok (.getfield 9, 3) := by decide +kernel
theorem dX0_at_12 : decode cX0_at 12 = .ok (.iload_n 1, 1) := by decide +kernel
theorem dX0_at_13 : decode cX0_at 13 = .ok (.laload, 1) := by decide +kernel
theorem dX0_at_14 : decode cX0_at 14 = .ok (.goto 4, 3) := by decide +kernel
theorem dX0_at_17 : decode cX0_at 17 = .ok (.lconst 0, 1) := by decide +kernel
theorem dX0_at_18 : decode cX0_at 18 = .ok (.lreturn, 1) := by decide +kernel
theorem dX0_isPeak_0 : decode cX0_isPeak 0 = .ok (.aload_n 0, 1) := by decide +kernel
theorem dX0_isPeak_1 : decode cX0_isPeak 1 = .ok (.iload_n 1, 1) := by decide +kernel
theorem dX0_isPeak_2 : decode cX0_isPeak 2 = .ok (.invokevirtual 62, 3) := by decide +kernel
theorem dX0_isPeak_5 : decode cX0_isPeak 5 = .ok (.aload_n 0, 1) := by decide +kernel
theorem dX0_isPeak_6 : decode cX0_isPeak 6 = .ok (.iload_n 1, 1) := by decide +kernel
theorem dX0_isPeak_7 : decode cX0_isPeak 7 = .ok (.iconst 1, 1) := by decide +kernel
theorem dX0_isPeak_8 : decode cX0_isPeak 8 = .ok (.isub, 1) := by decide +kernel
theorem dX0_isPeak_9 : decode cX0_isPeak 9 = .ok (.invokevirtual 62, 3) := by decide +kernel
theorem dX0_isPeak_12 : decode cX0_isPeak 12 = .ok (.lcmp, 1) := by decide +kernel
theorem dX0_isPeak_13 : decode cX0_isPeak 13 = .ok (.ifCond .le 33, 3) := by decide +kernel
theorem dX0_isPeak_16 : decode cX0_isPeak 16 = .ok (.aload_n 0, 1) := by decide +kernel
theorem dX0_isPeak_17 : decode cX0_isPeak 17 = .ok (.iload_n 1, 1) := by decide +kernel
theorem dX0_isPeak_18 : decode cX0_isPeak 18 = .ok (.invokevirtual 62, 3) := by decide +kernel
theorem dX0_isPeak_21 : decode cX0_isPeak 21 = .ok (.aload_n 0, 1) := by decide +kernel
theorem dX0_isPeak_22 : decode cX0_isPeak 22 = .ok (.iload_n 1, 1) := by decide +kernel
theorem dX0_isPeak_23 : decode cX0_isPeak 23 = .ok (.iconst 1, 1) := by decide +kernel
theorem dX0_isPeak_24 : decode cX0_isPeak 24 = .ok (.iadd, 1) := by decide +kernel
theorem dX0_isPeak_25 : decode cX0_isPeak 25 = .ok (.invokevirtual 62, 3) := by decide +kernel
theorem dX0_isPeak_28 : decode cX0_isPeak 28 = .ok (.lcmp, 1) := by decide +kernel
theorem dX0_isPeak_29 : decode cX0_isPeak 29 = .ok (.ifCond .lt 17, 3) := by decide +kernel
theorem dX0_isPeak_32 : decode cX0_isPeak 32 = .ok (.aload_n 0, 1) := by decide +kernel
theorem dX0_isPeak_33 : decode cX0_isPeak 33 = .ok (.iload_n 1, 1) := by decide +kernel
theorem dX0_isPeak_34 : decode cX0_isPeak 34 = .ok (.invokevirtual 62, 3) := by decide +kernel
theorem dX0_isPeak_37 : decode cX0_isPeak 37 = .ok (.lload_n 2, 1) := by decide +kernel
theorem dX0_isPeak_38 : decode cX0_isPeak 38 = .ok (.lcmp, 1) := by decide +kernel
theorem dX0_isPeak_39 : decode cX0_isPeak 39 = .ok (.ifCond .lt 7, 3) := by decide +kernel
theorem dX0_isPeak_42 : decode cX0_isPeak 42 = .ok (.iconst 1, 1) := by decide +kernel
theorem dX0_isPeak_43 : decode cX0_isPeak 43 = .ok (.goto 4, 3) := by decide +kernel
theorem dX0_isPeak_46 : decode cX0_isPeak 46 = .ok (.iconst 0, 1) := by decide +kernel
theorem dX0_isPeak_47 : decode cX0_isPeak 47 = .ok (.ireturn, 1) := by decide +kernel
theorem dX0_placeOfPeak_0 : decode cX0_placeOfPeak 0 = .ok (.aload_n 0, 1) := by decide +kernel
theorem dX0_placeOfPeak_1 : decode cX0_placeOfPeak 1 = .ok (.iload_n 1, 1) := by decide +kernel
theorem dX0_placeOfPeak_2 : decode cX0_placeOfPeak 2 = .ok (.iconst 1, 1) := by decide +kernel
theorem dX0_placeOfPeak_3 : decode cX0_placeOfPeak 3 = .ok (.isub, 1) := by decide +kernel
theorem dX0_placeOfPeak_4 : decode cX0_placeOfPeak 4 = .ok (.invokevirtual 62, 3) := by decide +kernel
theorem dX0_placeOfPeak_7 : decode cX0_placeOfPeak 7 = .ok (.aload_n 0, 1) := by decide +kernel
theorem dX0_placeOfPeak_8 : decode cX0_placeOfPeak 8 = .ok (.iload_n 1, 1) := by decide +kernel
theorem dX0_placeOfPeak_9 : decode cX0_placeOfPeak 9 = .ok (.invokevirtual 62, 3) := by decide +kernel
theorem dX0_placeOfPeak_12 : decode cX0_placeOfPeak 12 = .ok (.ladd, 1) := by decide +kernel
theorem dX0_placeOfPeak_13 : decode cX0_placeOfPeak 13 = .ok (.aload_n 0, 1) := by decide +kernel
theorem dX0_placeOfPeak_14 : decode cX0_placeOfPeak 14 = .ok (.iload_n 1, 1) := by decide +kernel
theorem dX0_placeOfPeak_15 : decode cX0_placeOfPeak 15 = .ok (.iconst 1, 1) := by decide +kernel
theorem dX0_placeOfPeak_16 : decode cX0_placeOfPeak 16 = .ok (.iadd, 1) := by decide +kernel
theorem dX0_placeOfPeak_17 : decode cX0_placeOfPeak 17 = .ok (.invokevirtual 62, 3) := by decide +kernel
theorem dX0_placeOfPeak_20 : decode cX0_placeOfPeak 20 = .ok (.ladd, 1) := by decide +kernel
theorem dX0_placeOfPeak_21 : decode cX0_placeOfPeak 21 = .ok (.lstore_n 2, 1) := by decide +kernel
theorem dX0_placeOfPeak_22 : decode cX0_placeOfPeak 22 = .ok (.lload_n 2, 1) := by decide +kernel
theorem dX0_placeOfPeak_23 : decode cX0_placeOfPeak 23 = .ok (.lconst 0, 1) := by decide +kernel
theorem dX0_placeOfPeak_24 : decode cX0_placeOfPeak 24 = .ok (.lcmp, 1) := by decide +kernel
theorem dX0_placeOfPeak_25 : decode cX0_placeOfPeak 25 = .ok (.ifCond .gt 8, 3) := by decide +kernel
theorem dX0_placeOfPeak_28 : decode cX0_placeOfPeak 28 = .ok (.bipush 64, 2) := by decide +kernel
theorem dX0_placeOfPeak_30 : decode cX0_placeOfPeak 30 = .ok (.iload_n 1, 1) := by decide +kernel
theorem dX0_placeOfPeak_31 : decode cX0_placeOfPeak 31 = .ok (.imul, 1) := by decide +kernel
theorem dX0_placeOfPeak_32 : decode cX0_placeOfPeak 32 = .ok (.ireturn, 1) := by decide +kernel
theorem dX0_placeOfPeak_33 : decode cX0_placeOfPeak 33 = .ok (.bipush 64, 2) := by decide +kernel
theorem dX0_placeOfPeak_35 : decode cX0_placeOfPeak 35 = .ok (.iload_n 1, 1) := by decide +kernel
theorem dX0_placeOfPeak_36 : decode cX0_placeOfPeak 36 = .ok (.imul, 1) := by decide +kernel
theorem dX0_placeOfPeak_37 : decode cX0_placeOfPeak 37 = .ok (.i2l, 1) := by decide +kernel
theorem dX0_placeOfPeak_38 : decode cX0_placeOfPeak 38 = .ok (.ldc2_w 66, 3) := by decide +kernel
theorem dX0_placeOfPeak_41 : decode cX0_placeOfPeak 41 = .ok (.aload_n 0, 1) := by decide +kernel
theorem dX0_placeOfPeak_42 : decode cX0_placeOfPeak 42 = .ok (.iload_n 1, 1) := by decide +kernel
theorem dX0_placeOfPeak_43 : decode cX0_placeOfPeak 43 = .ok (.iconst 1, 1) := by decide +kernel
theorem dX0_placeOfPeak_44 : decode cX0_placeOfPeak 44 = .ok (.iadd, 1) := by decide +kernel
theorem dX0_placeOfPeak_45 : decode cX0_placeOfPeak 45 = .ok (.invokevirtual 62, 3) := by decide +kernel
theorem dX0_placeOfPeak_48 : decode cX0_placeOfPeak 48 = .ok (.aload_n 0, 1) := by decide +kernel
theorem dX0_placeOfPeak_49 : decode cX0_placeOfPeak 49 = .ok (.iload_n 1, 1) := by decide +kernel
theorem dX0_placeOfPeak_50 : decode cX0_placeOfPeak 50 = .ok (.iconst 1, 1) := by decide +kernel
theorem dX0_placeOfPeak_51 : decode cX0_placeOfPeak 51 = .ok (.isub, 1) := by decide +kernel
theorem dX0_placeOfPeak_52 : decode cX0_placeOfPeak 52 = .ok (.invokevirtual 62, 3) := by decide +kernel
theorem dX0_placeOfPeak_55 : decode cX0_placeOfPeak 55 = .ok (.lsub, 1) := by decide +kernel
theorem dX0_placeOfPeak_56 : decode cX0_placeOfPeak 56 = .ok (.lmul, 1) := by decide +kernel
theorem dX0_placeOfPeak_57 : decode cX0_placeOfPeak 57 = .ok (.lload_n 2, 1) := by decide +kernel
theorem dX0_placeOfPeak_58 : decode cX0_placeOfPeak 58 = .ok (.invokestatic 68, 3) := by decide +kernel
theorem dX0_placeOfPeak_61 : decode cX0_placeOfPeak 61 = .ok (.ladd, 1) := by decide +kernel
theorem dX0_placeOfPeak_62 : decode cX0_placeOfPeak 62 = .ok (.l2i, 1) := by decide +kernel
theorem dX0_placeOfPeak_63 : decode cX0_placeOfPeak 63 = .ok (.ireturn, 1) := by decide +kernel
theorem dX1_init_0 : decode cX1_init 0 = .ok (.aload_n 0, 1) := by decide +kernel
theorem dX1_init_1 : decode cX1_init 1 = .ok (.invokespecial 1, 3) := by decide +kernel
theorem dX1_init_4 : decode cX1_init 4 = .ok (.return_, 1) := by decide +kernel
theorem dX1_become_0 : decode cX1_become 0 = .ok (.aload_n 0, 1) := by decide +kernel
theorem dX1_become_1 : decode cX1_become 1 = .ok (.iconst 1, 1) := by decide +kernel
theorem dX1_become_2 : decode cX1_become 2 = .ok (.putfield 7, 3) := by decide +kernel
theorem dX1_become_5 : decode cX1_become 5 = .ok (.aload_n 0, 1) := by decide +kernel
theorem dX1_become_6 : decode cX1_become 6 = .ok (.iload_n 1, 1) := by decide +kernel
theorem dX1_become_7 : decode cX1_become 7 = .ok (.putfield 13, 3) := by decide +kernel
theorem dX1_become_10 : decode cX1_become 10 = .ok (.aload_n 0, 1) := by decide +kernel
theorem dX1_become_11 : decode cX1_become 11 = .ok (.iload_n 2, 1) := by decide +kernel
theorem dX1_become_12 : decode cX1_become 12 = .ok (.putfield 17, 3) := by decide +kernel
theorem dX1_become_15 : decode cX1_become 15 = .ok (.aload_n 0, 1) := by decide +kernel
theorem dX1_become_16 : decode cX1_become 16 = .ok (.iload_n 3, 1) := by decide +kernel
theorem dX1_become_17 : decode cX1_become 17 = .ok (.putfield 20, 3) := by decide +kernel
theorem dX1_become_20 : decode cX1_become 20 = .ok (.return_, 1) := by decide +kernel
theorem dX1_drop_0 : decode cX1_drop 0 = .ok (.aload_n 0, 1) := by decide +kernel
theorem dX1_drop_1 : decode cX1_drop 1 = .ok (.iconst 0, 1) := by decide +kernel
theorem dX1_drop_2 : decode cX1_drop 2 = .ok (.putfield 7, 3) := by decide +kernel
theorem dX1_drop_5 : decode cX1_drop 5 = .ok (.aload_n 0, 1) := by decide +kernel
theorem dX1_drop_6 : decode cX1_drop 6 = .ok (.iconst 0, 1) := by decide +kernel
theorem dX1_drop_7 : decode cX1_drop 7 = .ok (.putfield 13, 3) := by decide +kernel
theorem dX1_drop_10 : decode cX1_drop 10 = .ok (.aload_n 0, 1) := by decide +kernel
theorem dX1_drop_11 : decode cX1_drop 11 = .ok (.iconst 0, 1) := by decide +kernel
theorem dX1_drop_12 : decode cX1_drop 12 = .ok (.putfield 17, 3) := by decide +kernel
theorem dX1_drop_15 : decode cX1_drop 15 = .ok (.aload_n 0, 1) := by decide +kernel
theorem dX1_drop_16 : decode cX1_drop 16 = .ok (.iconst 0, 1) := by decide +kernel
theorem dX1_drop_17 : decode cX1_drop 17 = .ok (.putfield 20, 3) := by decide +kernel
theorem dX1_drop_20 : decode cX1_drop 20 = .ok (.return_, 1) := by decide +kernel
theorem dX1_losesTo_0 : decode cX1_losesTo 0 = .ok (.aload_n 0, 1) := by decide +kernel
theorem dX1_losesTo_1 : decode cX1_losesTo 1 = .ok (.getfield 7, 3) := by decide +kernel
theorem dX1_losesTo_4 : decode cX1_losesTo 4 = .ok (.ifCond .eq 11, 3) := by decide +kernel
theorem dX1_losesTo_7 : decode cX1_losesTo 7 = .ok (.iload_n 3, 1) := by decide +kernel
theorem dX1_losesTo_8 : decode cX1_losesTo 8 = .ok (.aload_n 0, 1) := by decide +kernel
theorem dX1_losesTo_9 : decode cX1_losesTo 9 = .ok (.getfield 20, 3) := by decide +kernel
theorem dX1_losesTo_12 : decode cX1_losesTo 12 = .ok (.if_icmp .eq 24, 3) := by decide +kernel
theorem dX1_losesTo_15 : decode cX1_losesTo 15 = .ok (.aload_n 0, 1) := by decide +kernel
theorem dX1_losesTo_16 : decode cX1_losesTo 16 = .ok (.getfield 7, 3) := by decide +kernel
theorem dX1_losesTo_19 : decode cX1_losesTo 19 = .ok (.ifCond .eq 11, 3) := by decide +kernel
theorem dX1_losesTo_22 : decode cX1_losesTo 22 = .ok (.iload_n 3, 1) := by decide +kernel
theorem dX1_losesTo_23 : decode cX1_losesTo 23 = .ok (.aload_n 0, 1) := by decide +kernel
theorem dX1_losesTo_24 : decode cX1_losesTo 24 = .ok (.getfield 20, 3) := by decide +kernel
theorem dX1_losesTo_27 : decode cX1_losesTo 27 = .ok (.if_icmp .le 7, 3) := by decide +kernel
theorem dX1_losesTo_30 : decode cX1_losesTo 30 = .ok (.iconst 1, 1) := by decide +kernel
theorem dX1_losesTo_31 : decode cX1_losesTo 31 = .ok (.goto 4, 3) := by decide +kernel
theorem dX1_losesTo_34 : decode cX1_losesTo 34 = .ok (.iconst 0, 1) := by decide +kernel
theorem dX1_losesTo_35 : decode cX1_losesTo 35 = .ok (.ireturn, 1) := by decide +kernel
theorem dX1_losesTo_36 : decode cX1_losesTo 36 = .ok (.iload_n 2, 1) := by decide +kernel
theorem dX1_losesTo_37 : decode cX1_losesTo 37 = .ok (.aload_n 0, 1) := by decide +kernel
theorem dX1_losesTo_38 : decode cX1_losesTo 38 = .ok (.getfield 17, 3) := by decide +kernel
theorem dX1_losesTo_41 : decode cX1_losesTo 41 = .ok (.if_icmp .lt 19, 3) := by decide +kernel
theorem dX1_losesTo_44 : decode cX1_losesTo 44 = .ok (.iload_n 2, 1) := by decide +kernel
theorem dX1_losesTo_45 : decode cX1_losesTo 45 = .ok (.aload_n 0, 1) := by decide +kernel
theorem dX1_losesTo_46 : decode cX1_losesTo 46 = .ok (.getfield 17, 3) := by decide +kernel
theorem dX1_losesTo_49 : decode cX1_losesTo 49 = .ok (.if_icmp .ne 15, 3) := by decide +kernel
theorem dX1_losesTo_52 : decode cX1_losesTo 52 = .ok (.iload_n 1, 1) := by decide +kernel
theorem dX1_losesTo_53 : decode cX1_losesTo 53 = .ok (.aload_n 0, 1) := by decide +kernel
theorem dX1_losesTo_54 : decode cX1_losesTo 54 = .ok (.getfield 13, 3) := by decide +kernel
theorem dX1_losesTo_57 : decode cX1_losesTo 57 = .ok (.if_icmp .ge 7, 3) := by decide +kernel
theorem dX1_losesTo_60 : decode cX1_losesTo 60 = .ok (.iconst 1, 1) := by decide +kernel
theorem dX1_losesTo_61 : decode cX1_losesTo 61 = .ok (.goto 4, 3) := by decide +kernel
theorem dX1_losesTo_64 : decode cX1_losesTo 64 = .ok (.iconst 0, 1) := by decide +kernel
theorem dX1_losesTo_65 : decode cX1_losesTo 65 = .ok (.ireturn, 1) := by decide +kernel
theorem dX2_init_0 : decode cX2_init 0 = .ok (.aload_n 0, 1) := by decide +kernel
theorem dX2_init_1 : decode cX2_init 1 = .ok (.invokespecial 3, 3) := by decide +kernel
theorem dX2_init_4 : decode cX2_init 4 = .ok (.aload_n 0, 1) := by decide +kernel
theorem dX2_init_5 : decode cX2_init 5 = .ok (.iconst 1, 1) := by decide +kernel
theorem dX2_init_6 : decode cX2_init 6 = .ok (.putfield 9, 3) := by decide +kernel
theorem dX2_init_9 : decode cX2_init 9 = .ok (.aload_n 0, 1) := by decide +kernel
theorem dX2_init_10 : decode cX2_init 10 = .ok (.sipush 400, 3) := by decide +kernel
theorem dX2_init_13 : decode cX2_init 13 = .ok (.newarray .int, 2) := by decide +kernel
theorem dX2_init_15 : decode cX2_init 15 = .ok (.putfield 15, 3) := by decide +kernel
theorem dX2_init_18 : decode cX2_init 18 = .ok (.return_, 1) := by decide +kernel
theorem dX2_renew_0 : decode cX2_renew 0 = .ok (.aload_n 0, 1) := by decide +kernel
theorem dX2_renew_1 : decode cX2_renew 1 = .ok (.iconst 0, 1) := by decide +kernel
theorem dX2_renew_2 : decode cX2_renew 2 = .ok (.putfield 9, 3) := by decide +kernel
theorem dX2_renew_5 : decode cX2_renew 5 = .ok (.aload_n 0, 1) := by decide +kernel
theorem dX2_renew_6 : decode cX2_renew 6 = .ok (.iload_n 1, 1) := by decide +kernel
theorem dX2_renew_7 : decode cX2_renew 7 = .ok (.putfield 19, 3) := by decide +kernel
theorem dX2_renew_10 : decode cX2_renew 10 = .ok (.aload_n 0, 1) := by decide +kernel
theorem dX2_renew_11 : decode cX2_renew 11 = .ok (.iload_n 2, 1) := by decide +kernel
theorem dX2_renew_12 : decode cX2_renew 12 = .ok (.putfield 23, 3) := by decide +kernel
theorem dX2_renew_15 : decode cX2_renew 15 = .ok (.aload_n 0, 1) := by decide +kernel
theorem dX2_renew_16 : decode cX2_renew 16 = .ok (.iload_n 3, 1) := by decide +kernel
theorem dX2_renew_17 : decode cX2_renew 17 = .ok (.putfield 26, 3) := by decide +kernel
theorem dX2_renew_20 : decode cX2_renew 20 = .ok (.aload_n 0, 1) := by decide +kernel
theorem dX2_renew_21 : decode cX2_renew 21 = .ok (.getfield 15, 3) := by decide +kernel
theorem dX2_renew_24 : decode cX2_renew 24 = .ok (.iconst 0, 1) := by decide +kernel
theorem dX2_renew_25 : decode cX2_renew 25 = .ok (.invokestatic 29, 3) := by decide +kernel
theorem dX2_renew_28 : decode cX2_renew 28 = .ok (.return_, 1) := by decide +kernel
theorem dX2_holds_0 : decode cX2_holds 0 = .ok (.iload_n 1, 1) := by decide +kernel
theorem dX2_holds_1 : decode cX2_holds 1 = .ok (.ifCond .lt 27, 3) := by decide +kernel
theorem dX2_holds_4 : decode cX2_holds 4 = .ok (.iload_n 1, 1) := by decide +kernel
theorem dX2_holds_5 : decode cX2_holds 5 = .ok (.aload_n 0, 1) := by decide +kernel
theorem dX2_holds_6 : decode cX2_holds 6 = .ok (.getfield 23, 3) := by decide +kernel
theorem dX2_holds_9 : decode cX2_holds 9 = .ok (.if_icmp .ge 19, 3) := by decide +kernel
theorem dX2_holds_12 : decode cX2_holds 12 = .ok (.iload_n 2, 1) := by decide +kernel
theorem dX2_holds_13 : decode cX2_holds 13 = .ok (.ifCond .lt 15, 3) := by decide +kernel
theorem dX2_holds_16 : decode cX2_holds 16 = .ok (.iload_n 2, 1) := by decide +kernel
theorem dX2_holds_17 : decode cX2_holds 17 = .ok (.aload_n 0, 1) := by decide +kernel
theorem dX2_holds_18 : decode cX2_holds 18 = .ok (.getfield 26, 3) := by decide +kernel
theorem dX2_holds_21 : decode cX2_holds 21 = .ok (.if_icmp .ge 7, 3) := by decide +kernel
theorem dX2_holds_24 : decode cX2_holds 24 = .ok (.iconst 1, 1) := by decide +kernel
theorem dX2_holds_25 : decode cX2_holds 25 = .ok (.goto 4, 3) := by decide +kernel
theorem dX2_holds_28 : decode cX2_holds 28 = .ok (.iconst 0, 1) := by decide +kernel
theorem dX2_holds_29 : decode cX2_holds 29 = .ok (.ireturn, 1) := by decide +kernel
theorem dX2_at_0 : decode cX2_at 0 = .ok (.aload_n 0, 1) := by decide +kernel
theorem dX2_at_1 : decode cX2_at 1 = .ok (.iload_n 1, 1) := by decide +kernel
theorem dX2_at_2 : decode cX2_at 2 = .ok (.iload_n 2, 1) := by decide +kernel
theorem dX2_at_3 : decode cX2_at 3 = .ok (.invokevirtual 35, 3) := by decide +kernel
theorem dX2_at_6 : decode cX2_at 6 = .ok (.ifCond .eq 17, 3) := by decide +kernel
theorem dX2_at_9 : decode cX2_at 9 = .ok (.aload_n 0, 1) := by decide +kernel
theorem dX2_at_10 : decode cX2_at 10 = .ok (.getfield 15, 3) := by decide +kernel
theorem dX2_at_13 : decode cX2_at 13 = .ok (.iload_n 2, 1) := by decide +kernel
theorem dX2_at_14 : decode cX2_at 14 = .ok (.bipush 20, 2) := by decide +kernel
theorem dX2_at_16 : decode cX2_at 16 = .ok (.imul, 1) := by decide +kernel
theorem dX2_at_17 : decode cX2_at 17 = .ok (.iload_n 1, 1) := by decide +kernel
theorem dX2_at_18 : decode cX2_at 18 = .ok (.iadd, 1) := by decide +kernel
theorem dX2_at_19 : decode cX2_at 19 = .ok (.iaload, 1) := by decide +kernel
theorem dX2_at_20 : decode cX2_at 20 = .ok (.goto 4, 3) := by decide +kernel
theorem dX2_at_23 : decode cX2_at 23 = .ok (.iconst 0, 1) := by decide +kernel
theorem dX2_at_24 : decode cX2_at 24 = .ok (.ireturn, 1) := by decide +kernel
theorem dX2_set_0 : decode cX2_set 0 = .ok (.aload_n 0, 1) := by decide +kernel
theorem dX2_set_1 : decode cX2_set 1 = .ok (.iload_n 1, 1) := by decide +kernel
theorem dX2_set_2 : decode cX2_set 2 = .ok (.iload_n 2, 1) := by decide +kernel
theorem dX2_set_3 : decode cX2_set 3 = .ok (.invokevirtual 35, 3) := by decide +kernel
theorem dX2_set_6 : decode cX2_set 6 = .ok (.ifCond .eq 22, 3) := by decide +kernel
theorem dX2_set_9 : decode cX2_set 9 = .ok (.aload_n 0, 1) := by decide +kernel
theorem dX2_set_10 : decode cX2_set 10 = .ok (.getfield 15, 3) := by decide +kernel
theorem dX2_set_13 : decode cX2_set 13 = .ok (.iload_n 2, 1) := by decide +kernel
theorem dX2_set_14 : decode cX2_set 14 = .ok (.bipush 20, 2) := by decide +kernel
theorem dX2_set_16 : decode cX2_set 16 = .ok (.imul, 1) := by decide +kernel
theorem dX2_set_17 : decode cX2_set 17 = .ok (.iload_n 1, 1) := by decide +kernel
theorem dX2_set_18 : decode cX2_set 18 = .ok (.iadd, 1) := by decide +kernel
theorem dX2_set_19 : decode cX2_set 19 = .ok (.iload_n 3, 1) := by decide +kernel
theorem dX2_set_20 : decode cX2_set 20 = .ok (.aload_n 0, 1) := by decide +kernel
theorem dX2_set_21 : decode cX2_set 21 = .ok (.getfield 19, 3) := by decide +kernel
theorem dX2_set_24 : decode cX2_set 24 = .ok (.invokestatic 39, 3) := by decide +kernel
theorem dX2_set_27 : decode cX2_set 27 = .ok (.iastore, 1) := by decide +kernel
theorem dX2_set_28 : decode cX2_set 28 = .ok (.return_, 1) := by decide +kernel
theorem dX2_lightAt_0 : decode cX2_lightAt 0 = .ok (.iconst 0, 1) := by decide +kernel
theorem dX2_lightAt_1 : decode cX2_lightAt 1 = .ok (.ldc 43, 2) := by decide +kernel
theorem dX2_lightAt_3 : decode cX2_lightAt 3 = .ok (.aload_n 0, 1) := by decide +kernel
theorem dX2_lightAt_4 : decode cX2_lightAt 4 = .ok (.iload_n 1, 1) := by decide +kernel
theorem dX2_lightAt_5 : decode cX2_lightAt 5 = .ok (.iload_n 2, 1) := by decide +kernel
theorem dX2_lightAt_6 : decode cX2_lightAt 6 = .ok (.invokevirtual 44, 3) := by decide +kernel
theorem dX2_lightAt_9 : decode cX2_lightAt 9 = .ok (.invokestatic 47, 3) := by decide +kernel
theorem dX2_lightAt_12 : decode cX2_lightAt 12 = .ok (.invokestatic 52, 3) := by decide +kernel
theorem dX2_lightAt_15 : decode cX2_lightAt 15 = .ok (.i2l, 1) := by decide +kernel
theorem dX2_lightAt_16 : decode cX2_lightAt 16 = .ok (.lreturn, 1) := by decide +kernel
theorem dX2_alike_0 : decode cX2_alike 0 = .ok (.aload_n 0, 1) := by decide +kernel
theorem dX2_alike_1 : decode cX2_alike 1 = .ok (.getfield 23, 3) := by decide +kernel
theorem dX2_alike_4 : decode cX2_alike 4 = .ok (.aload_n 1, 1) := by decide +kernel
theorem dX2_alike_5 : decode cX2_alike 5 = .ok (.getfield 23, 3) := by decide +kernel
theorem dX2_alike_8 : decode cX2_alike 8 = .ok (.if_icmp .ne 18, 3) := by decide +kernel
theorem dX2_alike_11 : decode cX2_alike 11 = .ok (.aload_n 0, 1) := by decide +kernel
theorem dX2_alike_12 : decode cX2_alike 12 = .ok (.getfield 26, 3) := by decide +kernel
theorem dX2_alike_15 : decode cX2_alike 15 = .ok (.aload_n 1, 1) := by decide +kernel
theorem dX2_alike_16 : decode cX2_alike 16 = .ok (.getfield 26, 3) := by decide +kernel
theorem dX2_alike_19 : decode cX2_alike 19 = .ok (.if_icmp .ne 7, 3) := by decide +kernel
theorem dX2_alike_22 : decode cX2_alike 22 = .ok (.iconst 1, 1) := by decide +kernel
theorem dX2_alike_23 : decode cX2_alike 23 = .ok (.goto 4, 3) := by decide +kernel
theorem dX2_alike_26 : decode cX2_alike 26 = .ok (.iconst 0, 1) := by decide +kernel
theorem dX2_alike_27 : decode cX2_alike 27 = .ok (.ireturn, 1) := by decide +kernel
theorem dX3_init_0 : decode cX3_init 0 = .ok (.aload_n 0, 1) := by decide +kernel
theorem dX3_init_1 : decode cX3_init 1 = .ok (.invokespecial 1, 3) := by decide +kernel
theorem dX3_init_4 : decode cX3_init 4 = .ok (.return_, 1) := by decide +kernel
theorem dX3_empty_0 : decode cX3_empty 0 = .ok (.aload_n 0, 1) := by decide +kernel
theorem dX3_empty_1 : decode cX3_empty 1 = .ok (.iconst 0, 1) := by decide +kernel
theorem dX3_empty_2 : decode cX3_empty 2 = .ok (.putfield 7, 3) := by decide +kernel
theorem dX3_empty_5 : decode cX3_empty 5 = .ok (.aload_n 0, 1) := by decide +kernel
theorem dX3_empty_6 : decode cX3_empty 6 = .ok (.lconst 0, 1) := by decide +kernel
theorem dX3_empty_7 : decode cX3_empty 7 = .ok (.putfield 13, 3) := by decide +kernel
theorem dX3_empty_10 : decode cX3_empty 10 = .ok (.aload_n 0, 1) := by decide +kernel
theorem dX3_empty_11 : decode cX3_empty 11 = .ok (.lconst 0, 1) := by decide +kernel
theorem dX3_empty_12 : decode cX3_empty 12 = .ok (.putfield 17, 3) := by decide +kernel
theorem dX3_empty_15 : decode cX3_empty 15 = .ok (.aload_n 0, 1) := by decide +kernel
theorem dX3_empty_16 : decode cX3_empty 16 = .ok (.lconst 0, 1) := by decide +kernel
theorem dX3_empty_17 : decode cX3_empty 17 = .ok (.putfield 20, 3) := by decide +kernel
theorem dX3_empty_20 : decode cX3_empty 20 = .ok (.aload_n 0, 1) := by decide +kernel
theorem dX3_empty_21 : decode cX3_empty 21 = .ok (.lconst 0, 1) := by decide +kernel
theorem dX3_empty_22 : decode cX3_empty 22 = .ok (.putfield 23, 3) := by decide +kernel
theorem dX3_empty_25 : decode cX3_empty 25 = .ok (.return_, 1) := by decide +kernel
theorem dX3_take_0 : decode cX3_take 0 = .ok (.aload_n 0, 1) := by decide +kernel
theorem dX3_take_1 : decode cX3_take 1 = .ok (.dup, 1) := by decide +kernel
theorem dX3_take_2 : decode cX3_take 2 = .ok (.getfield 7, 3) := by decide +kernel
theorem dX3_take_5 : decode cX3_take 5 = .ok (.iconst 1, 1) := by decide +kernel
theorem dX3_take_6 : decode cX3_take 6 = .ok (.iadd, 1) := by decide +kernel
theorem dX3_take_7 : decode cX3_take 7 = .ok (.putfield 7, 3) := by decide +kernel
theorem dX3_take_10 : decode cX3_take 10 = .ok (.aload_n 0, 1) := by decide +kernel
theorem dX3_take_11 : decode cX3_take 11 = .ok (.dup, 1) := by decide +kernel
theorem dX3_take_12 : decode cX3_take 12 = .ok (.getfield 13, 3) := by decide +kernel
theorem dX3_take_15 : decode cX3_take 15 = .ok (.lload_n 1, 1) := by decide +kernel
theorem dX3_take_16 : decode cX3_take 16 = .ok (.ladd, 1) := by decide +kernel
theorem dX3_take_17 : decode cX3_take 17 = .ok (.putfield 13, 3) := by decide +kernel
theorem dX3_take_20 : decode cX3_take 20 = .ok (.aload_n 0, 1) := by decide +kernel
theorem dX3_take_21 : decode cX3_take 21 = .ok (.dup, 1) := by decide +kernel
theorem dX3_take_22 : decode cX3_take 22 = .ok (.getfield 17, 3) := by decide +kernel
theorem dX3_take_25 : decode cX3_take 25 = .ok (.lload_n 3, 1) := by decide +kernel
theorem dX3_take_26 : decode cX3_take 26 = .ok (.ladd, 1) := by decide +kernel
theorem dX3_take_27 : decode cX3_take 27 = .ok (.putfield 17, 3) := by decide +kernel
theorem dX3_take_30 : decode cX3_take 30 = .ok (.aload_n 0, 1) := by decide +kernel
theorem dX3_take_31 : decode cX3_take 31 = .ok (.dup, 1) := by decide +kernel
theorem dX3_take_32 : decode cX3_take 32 = .ok (.getfield 20, 3) := by decide +kernel
theorem dX3_take_35 : decode cX3_take 35 = .ok (.lload_n 3, 1) := by decide +kernel
theorem dX3_take_36 : decode cX3_take 36 = .ok (.lload_n 3, 1) := by decide +kernel
theorem dX3_take_37 : decode cX3_take 37 = .ok (.lmul, 1) := by decide +kernel
theorem dX3_take_38 : decode cX3_take 38 = .ok (.ladd, 1) := by decide +kernel
theorem dX3_take_39 : decode cX3_take 39 = .ok (.putfield 20, 3) := by decide +kernel
theorem dX3_take_42 : decode cX3_take 42 = .ok (.aload_n 0, 1) := by decide +kernel
theorem dX3_take_43 : decode cX3_take 43 = .ok (.dup, 1) := by decide +kernel
theorem dX3_take_44 : decode cX3_take 44 = .ok (.getfield 23, 3) := by decide +kernel
theorem dX3_take_47 : decode cX3_take 47 = .ok (.lload_n 3, 1) := by decide +kernel
theorem dX3_take_48 : decode cX3_take 48 = .ok (.lload_n 1, 1) := by decide +kernel
theorem dX3_take_49 : decode cX3_take 49 = .ok (.lmul, 1) := by decide +kernel
theorem dX3_take_50 : decode cX3_take 50 = .ok (.ladd, 1) := by decide +kernel
theorem dX3_take_51 : decode cX3_take 51 = .ok (.putfield 23, 3) := by decide +kernel
theorem dX3_take_54 : decode cX3_take 54 = .ok (.return_, 1) := by decide +kernel
theorem dX3_quotient_0 : decode cX3_quotient 0 = .ok (.aload_n 0, 1) := by decide +kernel
theorem dX3_quotient_1 : decode cX3_quotient 1 = .ok (.getfield 20, 3) := by decide +kernel
theorem dX3_quotient_4 : decode cX3_quotient 4 = .ok (.lconst 0, 1) := by decide +kernel
theorem dX3_quotient_5 : decode cX3_quotient 5 = .ok (.lcmp, 1) := by decide +kernel
theorem dX3_quotient_6 : decode cX3_quotient 6 = .ok (.ifCond .le 22, 3) := by decide +kernel
theorem dX3_quotient_9 : decode cX3_quotient 9 = .ok (.aload_n 0, 1) := by decide +kernel
theorem dX3_quotient_10 : decode cX3_quotient 10 = .ok (.getfield 23, 3) := by decide +kernel
theorem dX3_quotient_13 : decode cX3_quotient 13 = .ok (.aload_n 0, 1) := by decide +kernel
theorem dX3_quotient_14 : decode cX3_quotient 14 = .ok (.getfield 17, 3) := by decide +kernel
theorem dX3_quotient_17 : decode cX3_quotient 17 = .ok (.lmul, 1) := by decide +kernel
theorem dX3_quotient_18 : decode cX3_quotient 18 = .ok (.aload_n 0, 1) := by decide +kernel
theorem dX3_quotient_19 : decode cX3_quotient 19 = .ok (.getfield 20, 3) := by decide +kernel
theorem dX3_quotient_22 : decode cX3_quotient 22 = .ok (.invokestatic 26, 3) := by decide +kernel
theorem dX3_quotient_25 : decode cX3_quotient 25 = .ok (.goto 4, 3) := by decide +kernel
theorem dX3_quotient_28 : decode cX3_quotient 28 = .ok (.lconst 0, 1) := by decide +kernel
theorem dX3_quotient_29 : decode cX3_quotient 29 = .ok (.lreturn, 1) := by decide +kernel
theorem dJ9_floorDiv_7cf53_0 : decode cJ9_floorDiv_7cf53 0 = .ok (.iload_n 0, 1) := by decide +kernel
theorem dJ9_floorDiv_7cf53_1 : decode cJ9_floorDiv_7cf53 1 = .ok (.iload_n 1, 1) := by decide +kernel
theorem dJ9_floorDiv_7cf53_2 : decode cJ9_floorDiv_7cf53 2 = .ok (.idiv, 1) := by decide +kernel
theorem dJ9_floorDiv_7cf53_3 : decode cJ9_floorDiv_7cf53 3 = .ok (.istore_n 2, 1) := by decide +kernel
theorem dJ9_floorDiv_7cf53_4 : decode cJ9_floorDiv_7cf53 4 = .ok (.iload_n 0, 1) := by decide +kernel
theorem dJ9_floorDiv_7cf53_5 : decode cJ9_floorDiv_7cf53 5 = .ok (.iload_n 1, 1) := by decide +kernel
theorem dJ9_floorDiv_7cf53_6 : decode cJ9_floorDiv_7cf53 6 = .ok (.ixor, 1) := by decide +kernel
theorem dJ9_floorDiv_7cf53_7 : decode cJ9_floorDiv_7cf53 7 = .ok (.ifCond .ge 14, 3) := by decide +kernel
theorem dJ9_floorDiv_7cf53_10 : decode cJ9_floorDiv_7cf53 10 = .ok (.iload_n 2, 1) := by decide +kernel
theorem dJ9_floorDiv_7cf53_11 : decode cJ9_floorDiv_7cf53 11 = .ok (.iload_n 1, 1) := by decide +kernel
theorem dJ9_floorDiv_7cf53_12 : decode cJ9_floorDiv_7cf53 12 = .ok (.imul, 1) := by decide +kernel
theorem dJ9_floorDiv_7cf53_13 : decode cJ9_floorDiv_7cf53 13 = .ok (.iload_n 0, 1) := by decide +kernel
theorem dJ9_floorDiv_7cf53_14 : decode cJ9_floorDiv_7cf53 14 = .ok (.if_icmp .eq 7, 3) := by decide +kernel
theorem dJ9_floorDiv_7cf53_17 : decode cJ9_floorDiv_7cf53 17 = .ok (.iload_n 2, 1) := by decide +kernel
theorem dJ9_floorDiv_7cf53_18 : decode cJ9_floorDiv_7cf53 18 = .ok (.iconst 1, 1) := by decide +kernel
theorem dJ9_floorDiv_7cf53_19 : decode cJ9_floorDiv_7cf53 19 = .ok (.isub, 1) := by decide +kernel
theorem dJ9_floorDiv_7cf53_20 : decode cJ9_floorDiv_7cf53 20 = .ok (.ireturn, 1) := by decide +kernel
theorem dJ9_floorDiv_7cf53_21 : decode cJ9_floorDiv_7cf53 21 = .ok (.iload_n 2, 1) := by decide +kernel
theorem dJ9_floorDiv_7cf53_22 : decode cJ9_floorDiv_7cf53 22 = .ok (.ireturn, 1) := by decide +kernel
theorem dJ9_floorDiv_f86c9_0 : decode cJ9_floorDiv_f86c9 0 = .ok (.lload_n 0, 1) := by decide +kernel
theorem dJ9_floorDiv_f86c9_1 : decode cJ9_floorDiv_f86c9 1 = .ok (.lload_n 2, 1) := by decide +kernel
theorem dJ9_floorDiv_f86c9_2 : decode cJ9_floorDiv_f86c9 2 = .ok (.ldiv, 1) := by decide +kernel
theorem dJ9_floorDiv_f86c9_3 : decode cJ9_floorDiv_f86c9 3 = .ok (.lstore 4, 2) := by decide +kernel
theorem dJ9_floorDiv_f86c9_5 : decode cJ9_floorDiv_f86c9 5 = .ok (.lload_n 0, 1) := by decide +kernel
theorem dJ9_floorDiv_f86c9_6 : decode cJ9_floorDiv_f86c9 6 = .ok (.lload_n 2, 1) := by decide +kernel
theorem dJ9_floorDiv_f86c9_7 : decode cJ9_floorDiv_f86c9 7 = .ok (.lxor, 1) := by decide +kernel
theorem dJ9_floorDiv_f86c9_8 : decode cJ9_floorDiv_f86c9 8 = .ok (.lconst 0, 1) := by decide +kernel
theorem dJ9_floorDiv_f86c9_9 : decode cJ9_floorDiv_f86c9 9 = .ok (.lcmp, 1) := by decide +kernel
theorem dJ9_floorDiv_f86c9_10 : decode cJ9_floorDiv_f86c9 10 = .ok (.ifCond .ge 17, 3) := by decide +kernel
theorem dJ9_floorDiv_f86c9_13 : decode cJ9_floorDiv_f86c9 13 = .ok (.lload 4, 2) := by decide +kernel
theorem dJ9_floorDiv_f86c9_15 : decode cJ9_floorDiv_f86c9 15 = .ok (.lload_n 2, 1) := by decide +kernel
theorem dJ9_floorDiv_f86c9_16 : decode cJ9_floorDiv_f86c9 16 = .ok (.lmul, 1) := by decide +kernel
theorem dJ9_floorDiv_f86c9_17 : decode cJ9_floorDiv_f86c9 17 = .ok (.lload_n 0, 1) := by decide +kernel
theorem dJ9_floorDiv_f86c9_18 : decode cJ9_floorDiv_f86c9 18 = .ok (.lcmp, 1) := by decide +kernel
theorem dJ9_floorDiv_f86c9_19 : decode cJ9_floorDiv_f86c9 19 = .ok (.ifCond .eq 8, 3) := by decide +kernel
theorem dJ9_floorDiv_f86c9_22 : decode cJ9_floorDiv_f86c9 22 = .ok (.lload 4, 2) := by decide +kernel
theorem dJ9_floorDiv_f86c9_24 : decode cJ9_floorDiv_f86c9 24 = .ok (.lconst 1, 1) := by decide +kernel
theorem dJ9_floorDiv_f86c9_25 : decode cJ9_floorDiv_f86c9 25 = .ok (.lsub, 1) := by decide +kernel
theorem dJ9_floorDiv_f86c9_26 : decode cJ9_floorDiv_f86c9 26 = .ok (.lreturn, 1) := by decide +kernel
theorem dJ9_floorDiv_f86c9_27 : decode cJ9_floorDiv_f86c9 27 = .ok (.lload 4, 2) := by decide +kernel
theorem dJ9_floorDiv_f86c9_29 : decode cJ9_floorDiv_f86c9 29 = .ok (.lreturn, 1) := by decide +kernel
theorem dJ9_abs_067f4_0 : decode cJ9_abs_067f4 0 = .ok (.lload_n 0, 1) := by decide +kernel
theorem dJ9_abs_067f4_1 : decode cJ9_abs_067f4 1 = .ok (.lconst 0, 1) := by decide +kernel
theorem dJ9_abs_067f4_2 : decode cJ9_abs_067f4 2 = .ok (.lcmp, 1) := by decide +kernel
theorem dJ9_abs_067f4_3 : decode cJ9_abs_067f4 3 = .ok (.ifCond .ge 8, 3) := by decide +kernel
theorem dJ9_abs_067f4_6 : decode cJ9_abs_067f4 6 = .ok (.lload_n 0, 1) := by decide +kernel
theorem dJ9_abs_067f4_7 : decode cJ9_abs_067f4 7 = .ok (.lneg, 1) := by decide +kernel
theorem dJ9_abs_067f4_8 : decode cJ9_abs_067f4 8 = .ok (.goto 4, 3) := by decide +kernel
theorem dJ9_abs_067f4_11 : decode cJ9_abs_067f4 11 = .ok (.lload_n 0, 1) := by decide +kernel
theorem dJ9_abs_067f4_12 : decode cJ9_abs_067f4 12 = .ok (.lreturn, 1) := by decide +kernel
theorem dJ9_max_7cf53_0 : decode cJ9_max_7cf53 0 = .ok (.iload_n 0, 1) := by decide +kernel
theorem dJ9_max_7cf53_1 : decode cJ9_max_7cf53 1 = .ok (.iload_n 1, 1) := by decide +kernel
theorem dJ9_max_7cf53_2 : decode cJ9_max_7cf53 2 = .ok (.if_icmp .lt 7, 3) := by decide +kernel
theorem dJ9_max_7cf53_5 : decode cJ9_max_7cf53 5 = .ok (.iload_n 0, 1) := by decide +kernel
theorem dJ9_max_7cf53_6 : decode cJ9_max_7cf53 6 = .ok (.goto 4, 3) := by decide +kernel
theorem dJ9_max_7cf53_9 : decode cJ9_max_7cf53 9 = .ok (.iload_n 1, 1) := by decide +kernel
theorem dJ9_max_7cf53_10 : decode cJ9_max_7cf53 10 = .ok (.ireturn, 1) := by decide +kernel
theorem dJ9_min_7cf53_0 : decode cJ9_min_7cf53 0 = .ok (.iload_n 0, 1) := by decide +kernel
theorem dJ9_min_7cf53_1 : decode cJ9_min_7cf53 1 = .ok (.iload_n 1, 1) := by decide +kernel
theorem dJ9_min_7cf53_2 : decode cJ9_min_7cf53 2 = .ok (.if_icmp .gt 7, 3) := by decide +kernel
theorem dJ9_min_7cf53_5 : decode cJ9_min_7cf53 5 = .ok (.iload_n 0, 1) := by decide +kernel
theorem dJ9_min_7cf53_6 : decode cJ9_min_7cf53 6 = .ok (.goto 4, 3) := by decide +kernel
theorem dJ9_min_7cf53_9 : decode cJ9_min_7cf53 9 = .ok (.iload_n 1, 1) := by decide +kernel
theorem dJ9_min_7cf53_10 : decode cJ9_min_7cf53 10 = .ok (.ireturn, 1) := by decide +kernel
theorem dJ7_fill_53178_0 : decode cJ7_fill_53178 0 = .ok (.iconst 0, 1) := by decide +kernel
theorem dJ7_fill_53178_1 : decode cJ7_fill_53178 1 = .ok (.istore_n 2, 1) := by decide +kernel
theorem dJ7_fill_53178_2 : decode cJ7_fill_53178 2 = .ok (.aload_n 0, 1) := by decide +kernel
theorem dJ7_fill_53178_3 : decode cJ7_fill_53178 3 = .ok (.arraylength, 1) := by decide +kernel
theorem dJ7_fill_53178_4 : decode cJ7_fill_53178 4 = .ok (.istore_n 3, 1) := by decide +kernel
theorem dJ7_fill_53178_5 : decode cJ7_fill_53178 5 = .ok (.iload_n 2, 1) := by decide +kernel
theorem dJ7_fill_53178_6 : decode cJ7_fill_53178 6 = .ok (.iload_n 3, 1) := by decide +kernel
theorem dJ7_fill_53178_7 : decode cJ7_fill_53178 7 = .ok (.if_icmp .ge 13, 3) := by decide +kernel
theorem dJ7_fill_53178_10 : decode cJ7_fill_53178 10 = .ok (.aload_n 0, 1) := by decide +kernel
theorem dJ7_fill_53178_11 : decode cJ7_fill_53178 11 = .ok (.iload_n 2, 1) := by decide +kernel
theorem dJ7_fill_53178_12 : decode cJ7_fill_53178 12 = .ok (.iload_n 1, 1) := by decide +kernel
theorem dJ7_fill_53178_13 : decode cJ7_fill_53178 13 = .ok (.iastore, 1) := by decide +kernel
theorem dJ7_fill_53178_14 : decode cJ7_fill_53178 14 = .ok (.iinc 2 1, 3) := by decide +kernel
theorem dJ7_fill_53178_17 : decode cJ7_fill_53178 17 = .ok (.goto (-12), 3) := by decide +kernel
theorem dJ7_fill_53178_20 : decode cJ7_fill_53178 20 = .ok (.return_, 1) := by decide +kernel
end
section
theorem dX4_init_0 : decode cX4_init 0 = .ok (.aload_n 0, 1) := by decide +kernel
theorem dX4_init_1 : decode cX4_init 1 = .ok (.invokespecial 1, 3) := by decide +kernel
theorem dX4_init_4 : decode cX4_init 4 = .ok (.aload_n 0, 1) := by decide +kernel
theorem dX4_init_5 : decode cX4_init 5 = .ok (.bipush 6, 2) := by decide +kernel
theorem dX4_init_7 : decode cX4_init 7 = .ok (.anewarray 9, 3) := by decide +kernel
theorem dX4_init_10 : decode cX4_init 10 = .ok (.putfield 11, 3) := by decide +kernel
theorem dX4_init_13 : decode cX4_init 13 = .ok (.aload_n 0, 1) := by decide +kernel
theorem dX4_init_14 : decode cX4_init 14 = .ok (.sipush 400, 3) := by decide +kernel
theorem dX4_init_17 : decode cX4_init 17 = .ok (.newarray .boolean, 2) := by decide +kernel
theorem dX4_init_19 : decode cX4_init 19 = .ok (.putfield 15, 3) := by decide +kernel
theorem dX4_init_22 : decode cX4_init 22 = .ok (.aload_n 0, 1) := by decide +kernel
theorem dX4_init_23 : decode cX4_init 23 = .ok (.iconst 4, 1) := by decide +kernel
theorem dX4_init_24 : decode cX4_init 24 = .ok (.anewarray 19, 3) := by decide +kernel
theorem dX4_init_27 : decode cX4_init 27 = .ok (.putfield 21, 3) := by decide +kernel
theorem dX4_init_30 : decode cX4_init 30 = .ok (.aload_n 0, 1) := by decide +kernel
theorem dX4_init_31 : decode cX4_init 31 = .ok (.bipush 12, 2) := by decide +kernel
theorem dX4_init_33 : decode cX4_init 33 = .ok (.newarray .int, 2) := by decide +kernel
theorem dX4_init_35 : decode cX4_init 35 = .ok (.putfield 25, 3) := by decide +kernel
theorem dX4_init_38 : decode cX4_init 38 = .ok (.aload_n 0, 1) := by decide +kernel
theorem dX4_init_39 : decode cX4_init 39 = .ok (.bipush 60, 2) := by decide +kernel
theorem dX4_init_41 : decode cX4_init 41 = .ok (.newarray .long, 2) := by decide +kernel
theorem dX4_init_43 : decode cX4_init 43 = .ok (.putfield 29, 3) := by decide +kernel
theorem dX4_init_46 : decode cX4_init 46 = .ok (.aload_n 0, 1) := by decide +kernel
theorem dX4_init_47 : decode cX4_init 47 = .ok (.bipush 6, 2) := by decide +kernel
theorem dX4_init_49 : decode cX4_init 49 = .ok (.newarray .int, 2) := by decide +kernel
theorem dX4_init_51 : decode cX4_init 51 = .ok (.putfield 33, 3) := by decide +kernel
theorem dX4_init_54 : decode cX4_init 54 = .ok (.aload_n 0, 1) := by decide +kernel
theorem dX4_init_55 : decode cX4_init 55 = .ok (.bipush 20, 2) := by decide +kernel
theorem dX4_init_57 : decode cX4_init 57 = .ok (.newarray .int, 2) := by decide +kernel
theorem dX4_init_59 : decode cX4_init 59 = .ok (.putfield 36, 3) := by decide +kernel
theorem dX4_init_62 : decode cX4_init 62 = .ok (.aload_n 0, 1) := by decide +kernel
theorem dX4_init_63 : decode cX4_init 63 = .ok (.new 39, 3) := by decide +kernel
theorem dX4_init_66 : decode cX4_init 66 = .ok (.dup, 1) := by decide +kernel
theorem dX4_init_67 : decode cX4_init 67 = .ok (.invokespecial 41, 3) := by decide +kernel
theorem dX4_init_70 : decode cX4_init 70 = .ok (.putfield 42, 3) := by decide +kernel
theorem dX4_init_73 : decode cX4_init 73 = .ok (.aload_n 0, 1) := by decide +kernel
theorem dX4_init_74 : decode cX4_init 74 = .ok (.new 46, 3) := by decide +kernel
theorem dX4_init_77 : decode cX4_init 77 = .ok (.dup, 1) := by decide +kernel
theorem dX4_init_78 : decode cX4_init 78 = .ok (.invokespecial 48, 3) := by decide +kernel
theorem dX4_init_81 : decode cX4_init 81 = .ok (.putfield 49, 3) := by decide +kernel
theorem dX4_init_84 : decode cX4_init 84 = .ok (.iconst 0, 1) := by decide +kernel
theorem dX4_init_85 : decode cX4_init 85 = .ok (.istore_n 1, 1) := by decide +kernel
theorem dX4_init_86 : decode cX4_init 86 = .ok (.iload_n 1, 1) := by decide +kernel
theorem dX4_init_87 : decode cX4_init 87 = .ok (.bipush 6, 2) := by decide +kernel
theorem dX4_init_89 : decode cX4_init 89 = .ok (.if_icmp .ge 22, 3) := by decide +kernel
theorem dX4_init_92 : decode cX4_init 92 = .ok (.aload_n 0, 1) := by decide +kernel
theorem dX4_init_93 : decode cX4_init 93 = .ok (.getfield 11, 3) := by decide +kernel
theorem dX4_init_96 : decode cX4_init 96 = .ok (.iload_n 1, 1) := by decide +kernel
theorem dX4_init_97 : decode cX4_init 97 = .ok (.new 9, 3) := by decide +kernel
theorem dX4_init_100 : decode cX4_init 100 = .ok (.dup, 1) := by decide +kernel
theorem dX4_init_101 : decode cX4_init 101 = .ok (.invokespecial 53, 3) := by decide +kernel
theorem dX4_init_104 : decode cX4_init 104 = .ok (.aastore, 1) := by decide +kernel
theorem dX4_init_105 : decode cX4_init 105 = .ok (.iinc 1 1, 3) := by decide +kernel
theorem dX4_init_108 : decode cX4_init 108 = .ok (.goto (-22), 3) := by decide +kernel
theorem dX4_init_111 : decode cX4_init 111 = .ok (.iconst 0, 1) := by decide +kernel
theorem dX4_init_112 : decode cX4_init 112 = .ok (.istore_n 1, 1) := by decide +kernel
theorem dX4_init_113 : decode cX4_init 113 = .ok (.iload_n 1, 1) := by decide +kernel
theorem dX4_init_114 : decode cX4_init 114 = .ok (.iconst 4, 1) := by decide +kernel
theorem dX4_init_115 : decode cX4_init 115 = .ok (.if_icmp .ge 22, 3) := by decide +kernel
theorem dX4_init_118 : decode cX4_init 118 = .ok (.aload_n 0, 1) := by decide +kernel
theorem dX4_init_119 : decode cX4_init 119 = .ok (.getfield 21, 3) := by decide +kernel
theorem dX4_init_122 : decode cX4_init 122 = .ok (.iload_n 1, 1) := by decide +kernel
theorem dX4_init_123 : decode cX4_init 123 = .ok (.new 19, 3) := by decide +kernel
theorem dX4_init_126 : decode cX4_init 126 = .ok (.dup, 1) := by decide +kernel
theorem dX4_init_127 : decode cX4_init 127 = .ok (.invokespecial 54, 3) := by decide +kernel
theorem dX4_init_130 : decode cX4_init 130 = .ok (.aastore, 1) := by decide +kernel
theorem dX4_init_131 : decode cX4_init 131 = .ok (.iinc 1 1, 3) := by decide +kernel
theorem dX4_init_134 : decode cX4_init 134 = .ok (.goto (-21), 3) := by decide +kernel
theorem dX4_init_137 : decode cX4_init 137 = .ok (.return_, 1) := by decide +kernel
theorem dX4_plate_0 : decode cX4_plate 0 = .ok (.aload_n 0, 1) := by decide +kernel
theorem dX4_plate_1 : decode cX4_plate 1 = .ok (.iload_n 1, 1) := by decide +kernel
theorem dX4_plate_2 : decode cX4_plate 2 = .ok (.invokevirtual 55, 3) := by decide +kernel
theorem dX4_plate_5 : decode cX4_plate 5 = .ok (.astore 5, 2) := by decide +kernel
theorem dX4_plate_7 : decode cX4_plate 7 = .ok (.aload 5, 2) := by decide +kernel
theorem dX4_plate_9 : decode cX4_plate 9 = .ok (.ifnonnull 6, 3) := by decide +kernel
theorem dX4_plate_12 : decode cX4_plate 12 = .ok (.bipush (-101), 2) := by decide +kernel
theorem dX4_plate_14 : decode cX4_plate 14 = .ok (.ireturn, 1) := by decide +kernel
theorem dX4_plate_15 : decode cX4_plate 15 = .ok (.iload_n 2, 1) := by decide +kernel
theorem dX4_plate_16 : decode cX4_plate 16 = .ok (.invokestatic 59, 3) := by decide +kernel
theorem dX4_plate_19 : decode cX4_plate 19 = .ok (.ifCond .eq 25, 3) := by decide +kernel
theorem dX4_plate_22 : decode cX4_plate 22 = .ok (.iload_n 3, 1) := by decide +kernel
theorem dX4_plate_23 : decode cX4_plate 23 = .ok (.ifCond .eq 21, 3) := by decide +kernel
theorem dX4_plate_26 : decode cX4_plate 26 = .ok (.iload_n 3, 1) := by decide +kernel
theorem dX4_plate_27 : decode cX4_plate 27 = .ok (.bipush 20, 2) := by decide +kernel
theorem dX4_plate_29 : decode cX4_plate 29 = .ok (.if_icmp .gt 15, 3) := by decide +kernel
theorem dX4_plate_32 : decode cX4_plate 32 = .ok (.iload 4, 2) := by decide +kernel
theorem dX4_plate_34 : decode cX4_plate 34 = .ok (.ifCond .eq 10, 3) := by decide +kernel
theorem dX4_plate_37 : decode cX4_plate 37 = .ok (.iload 4, 2) := by decide +kernel
theorem dX4_plate_39 : decode cX4_plate 39 = .ok (.bipush 20, 2) := by decide +kernel
theorem dX4_plate_41 : decode cX4_plate 41 = .ok (.if_icmp .le 6, 3) := by decide +kernel
theorem dX4_plate_44 : decode cX4_plate 44 = .ok (.bipush (-102), 2) := by decide +kernel
theorem dX4_plate_46 : decode cX4_plate 46 = .ok (.ireturn, 1) := by decide +kernel
theorem dX4_plate_47 : decode cX4_plate 47 = .ok (.iload_n 3, 1) := by decide +kernel
theorem dX4_plate_48 : decode cX4_plate 48 = .ok (.ifCond .lt 8, 3) := by decide +kernel
theorem dX4_plate_51 : decode cX4_plate 51 = .ok (.iload 4, 2) := by decide +kernel
theorem dX4_plate_53 : decode cX4_plate 53 = .ok (.ifCond .ge 9, 3) := by decide +kernel
theorem dX4_plate_56 : decode cX4_plate 56 = .ok (.aload_n 0, 1) := by decide +kernel
theorem dX4_plate_57 : decode cX4_plate 57 = .ok (.iconst 3, 1) := by decide +kernel
theorem dX4_plate_58 : decode cX4_plate 58 = .ok (.invokevirtual 63, 3) := by decide +kernel
theorem dX4_plate_61 : decode cX4_plate 61 = .ok (.ireturn, 1) := by decide +kernel
theorem dX4_plate_62 : decode cX4_plate 62 = .ok (.aload 5, 2) := by decide +kernel
theorem dX4_plate_64 : decode cX4_plate 64 = .ok (.iload_n 2, 1) := by decide +kernel
theorem dX4_plate_65 : decode cX4_plate 65 = .ok (.iload_n 3, 1) := by decide +kernel
theorem dX4_plate_66 : decode cX4_plate 66 = .ok (.iload 4, 2) := by decide +kernel
theorem dX4_plate_68 : decode cX4_plate 68 = .ok (.invokevirtual 67, 3) := by decide +kernel
theorem dX4_plate_71 : decode cX4_plate 71 = .ok (.iload_n 3, 1) := by decide +kernel
theorem dX4_plate_72 : decode cX4_plate 72 = .ok (.ireturn, 1) := by decide +kernel
theorem dX4_put_0 : decode cX4_put 0 = .ok (.aload_n 0, 1) := by decide +kernel
theorem dX4_put_1 : decode cX4_put 1 = .ok (.iload_n 1, 1) := by decide +kernel
theorem dX4_put_2 : decode cX4_put 2 = .ok (.invokevirtual 55, 3) := by decide +kernel
theorem dX4_put_5 : decode cX4_put 5 = .ok (.astore 6, 2) := by decide +kernel
theorem dX4_put_7 : decode cX4_put 7 = .ok (.aload 6, 2) := by decide +kernel
theorem dX4_put_9 : decode cX4_put 9 = .ok (.ifnonnull 6, 3) := by decide +kernel
theorem dX4_put_12 : decode cX4_put 12 = .ok (.bipush (-101), 2) := by decide +kernel
theorem dX4_put_14 : decode cX4_put 14 = .ok (.ireturn, 1) := by decide +kernel
theorem dX4_put_15 : decode cX4_put 15 = .ok (.iload_n 2, 1) := by decide +kernel
theorem dX4_put_16 : decode cX4_put 16 = .ok (.invokestatic 59, 3) := by decide +kernel
theorem dX4_put_19 : decode cX4_put 19 = .ok (.ifCond .ne 6, 3) := by decide +kernel
theorem dX4_put_22 : decode cX4_put 22 = .ok (.bipush (-102), 2) := by decide +kernel
theorem dX4_put_24 : decode cX4_put 24 = .ok (.ireturn, 1) := by decide +kernel
theorem dX4_put_25 : decode cX4_put 25 = .ok (.aload 6, 2) := by decide +kernel
theorem dX4_put_27 : decode cX4_put 27 = .ok (.getfield 71, 3) := by decide +kernel
theorem dX4_put_30 : decode cX4_put 30 = .ok (.ifCond .eq 9, 3) := by decide +kernel
theorem dX4_put_33 : decode cX4_put 33 = .ok (.aload_n 0, 1) := by decide +kernel
theorem dX4_put_34 : decode cX4_put 34 = .ok (.iconst 1, 1) := by decide +kernel
theorem dX4_put_35 : decode cX4_put 35 = .ok (.invokevirtual 63, 3) := by decide +kernel
theorem dX4_put_38 : decode cX4_put 38 = .ok (.ireturn, 1) := by decide +kernel
theorem dX4_put_39 : decode cX4_put 39 = .ok (.aload 6, 2) := by decide +kernel
theorem dX4_put_41 : decode cX4_put 41 = .ok (.getfield 75, 3) := by decide +kernel
theorem dX4_put_44 : decode cX4_put 44 = .ok (.iload_n 2, 1) := by decide +kernel
theorem dX4_put_45 : decode cX4_put 45 = .ok (.if_icmp .eq 9, 3) := by decide +kernel
theorem dX4_put_48 : decode cX4_put 48 = .ok (.aload_n 0, 1) := by decide +kernel
theorem dX4_put_49 : decode cX4_put 49 = .ok (.iconst 4, 1) := by decide +kernel
theorem dX4_put_50 : decode cX4_put 50 = .ok (.invokevirtual 63, 3) := by decide +kernel
theorem dX4_put_53 : decode cX4_put 53 = .ok (.ireturn, 1) := by decide +kernel
theorem dX4_put_54 : decode cX4_put 54 = .ok (.aload 6, 2) := by decide +kernel
theorem dX4_put_56 : decode cX4_put 56 = .ok (.iload_n 3, 1) := by decide +kernel
theorem dX4_put_57 : decode cX4_put 57 = .ok (.iload 4, 2) := by decide +kernel
theorem dX4_put_59 : decode cX4_put 59 = .ok (.invokevirtual 79, 3) := by decide +kernel
theorem dX4_put_62 : decode cX4_put 62 = .ok (.ifCond .ne 9, 3) := by decide +kernel
theorem dX4_put_65 : decode cX4_put 65 = .ok (.aload_n 0, 1) := by decide +kernel
theorem dX4_put_66 : decode cX4_put 66 = .ok (.iconst 2, 1) := by decide +kernel
theorem dX4_put_67 : decode cX4_put 67 = .ok (.invokevirtual 63, 3) := by decide +kernel
theorem dX4_put_70 : decode cX4_put 70 = .ok (.ireturn, 1) := by decide +kernel
theorem dX4_put_71 : decode cX4_put 71 = .ok (.aload 6, 2) := by decide +kernel
theorem dX4_put_73 : decode cX4_put 73 = .ok (.iload_n 3, 1) := by decide +kernel
theorem dX4_put_74 : decode cX4_put 74 = .ok (.iload 4, 2) := by decide +kernel
theorem dX4_put_76 : decode cX4_put 76 = .ok (.iload 5, 2) := by decide +kernel
theorem dX4_put_78 : decode cX4_put 78 = .ok (.invokevirtual 83, 3) := by decide +kernel
theorem dX4_put_81 : decode cX4_put 81 = .ok (.iconst 1, 1) := by decide +kernel
theorem dX4_put_82 : decode cX4_put 82 = .ok (.ireturn, 1) := by decide +kernel
theorem dX4_copy_0 : decode cX4_copy 0 = .ok (.aload_n 0, 1) := by decide +kernel
theorem dX4_copy_1 : decode cX4_copy 1 = .ok (.iload_n 1, 1) := by decide +kernel
theorem dX4_copy_2 : decode cX4_copy 2 = .ok (.invokevirtual 55, 3) := by decide +kernel
theorem dX4_copy_5 : decode cX4_copy 5 = .ok (.astore_n 3, 1) := by decide +kernel
theorem dX4_copy_6 : decode cX4_copy 6 = .ok (.aload_n 0, 1) := by decide +kernel
theorem dX4_copy_7 : decode cX4_copy 7 = .ok (.iload_n 2, 1) := by decide +kernel
theorem dX4_copy_8 : decode cX4_copy 8 = .ok (.invokevirtual 55, 3) := by decide +kernel
theorem dX4_copy_11 : decode cX4_copy 11 = .ok (.astore 4, 2) := by decide +kernel
theorem dX4_copy_13 : decode cX4_copy 13 = .ok (.aload_n 3, 1) := by decide +kernel
theorem dX4_copy_14 : decode cX4_copy 14 = .ok (.ifnull 8, 3) := by decide +kernel
theorem dX4_copy_17 : decode cX4_copy 17 = .ok (.aload 4, 2) := by decide +kernel
theorem dX4_copy_19 : decode cX4_copy 19 = .ok (.ifnonnull 6, 3) := by decide +kernel
theorem dX4_copy_22 : decode cX4_copy 22 = .ok (.bipush (-101), 2) := by decide +kernel
theorem dX4_copy_24 : decode cX4_copy 24 = .ok (.ireturn, 1) := by decide +kernel
theorem dX4_copy_25 : decode cX4_copy 25 = .ok (.aload_n 3, 1) := by decide +kernel
theorem dX4_copy_26 : decode cX4_copy 26 = .ok (.getfield 71, 3) := by decide +kernel
theorem dX4_copy_29 : decode cX4_copy 29 = .ok (.ifCond .ne 11, 3) := by decide +kernel
theorem dX4_copy_32 : decode cX4_copy 32 = .ok (.aload 4, 2) := by decide +kernel
theorem dX4_copy_34 : decode cX4_copy 34 = .ok (.getfield 71, 3) := by decide +kernel
theorem dX4_copy_37 : decode cX4_copy 37 = .ok (.ifCond .eq 9, 3) := by decide +kernel
theorem dX4_copy_40 : decode cX4_copy 40 = .ok (.aload_n 0, 1) := by decide +kernel
theorem dX4_copy_41 : decode cX4_copy 41 = .ok (.iconst 1, 1) := by decide +kernel
theorem dX4_copy_42 : decode cX4_copy 42 = .ok (.invokevirtual 63, 3) := by decide +kernel
theorem dX4_copy_45 : decode cX4_copy 45 = .ok (.ireturn, 1) := by decide +kernel
theorem dX4_copy_46 : decode cX4_copy 46 = .ok (.aload_n 3, 1) := by decide +kernel
theorem dX4_copy_47 : decode cX4_copy 47 = .ok (.getfield 75, 3) := by decide +kernel
theorem dX4_copy_50 : decode cX4_copy 50 = .ok (.aload 4, 2) := by decide +kernel
theorem dX4_copy_52 : decode cX4_copy 52 = .ok (.getfield 75, 3) := by decide +kernel
theorem dX4_copy_55 : decode cX4_copy 55 = .ok (.if_icmp .eq 9, 3) := by decide +kernel
theorem dX4_copy_58 : decode cX4_copy 58 = .ok (.aload_n 0, 1) := by decide +kernel
theorem dX4_copy_59 : decode cX4_copy 59 = .ok (.iconst 4, 1) := by decide +kernel
theorem dX4_copy_60 : decode cX4_copy 60 = .ok (.invokevirtual 63, 3) := by decide +kernel
theorem dX4_copy_63 : decode cX4_copy 63 = .ok (.ireturn, 1) := by decide +kernel
theorem dX4_copy_64 : decode cX4_copy 64 = .ok (.aload_n 3, 1) := by decide +kernel
theorem dX4_copy_65 : decode cX4_copy 65 = .ok (.aload 4, 2) := by decide +kernel
theorem dX4_copy_67 : decode cX4_copy 67 = .ok (.invokevirtual 86, 3) := by decide +kernel
theorem dX4_copy_70 : decode cX4_copy 70 = .ok (.ifCond .ne 9, 3) := by decide +kernel
theorem dX4_copy_73 : decode cX4_copy 73 = .ok (.aload_n 0, 1) := by decide +kernel
theorem dX4_copy_74 : decode cX4_copy 74 = .ok (.iconst 5, 1) := by decide +kernel
theorem dX4_copy_75 : decode cX4_copy 75 = .ok (.invokevirtual 63, 3) := by decide +kernel
theorem dX4_copy_78 : decode cX4_copy 78 = .ok (.ireturn, 1) := by decide +kernel
theorem dX4_copy_79 : decode cX4_copy 79 = .ok (.iconst 0, 1) := by decide +kernel
theorem dX4_copy_80 : decode cX4_copy 80 = .ok (.istore 5, 2) := by decide +kernel
theorem dX4_copy_82 : decode cX4_copy 82 = .ok (.iload 5, 2) := by decide +kernel
theorem dX4_copy_84 : decode cX4_copy 84 = .ok (.aload 4, 2) := by decide +kernel
theorem dX4_copy_86 : decode cX4_copy 86 = .ok (.getfield 90, 3) := by decide +kernel
theorem dX4_copy_89 : decode cX4_copy 89 = .ok (.if_icmp .ge 45, 3) := by decide +kernel
theorem dX4_copy_92 : decode cX4_copy 92 = .ok (.iconst 0, 1) := by decide +kernel
theorem dX4_copy_93 : decode cX4_copy 93 = .ok (.istore 6, 2) := by decide +kernel
theorem dX4_copy_95 : decode cX4_copy 95 = .ok (.iload 6, 2) := by decide +kernel
theorem dX4_copy_97 : decode cX4_copy 97 = .ok (.aload 4, 2) := by decide +kernel
theorem dX4_copy_99 : decode cX4_copy 99 = .ok (.getfield 93, 3) := by decide +kernel
theorem dX4_copy_102 : decode cX4_copy 102 = .ok (.if_icmp .ge 26, 3) := by decide +kernel
theorem dX4_copy_105 : decode cX4_copy 105 = .ok (.aload 4, 2) := by decide +kernel
theorem dX4_copy_107 : decode cX4_copy 107 = .ok (.iload 6, 2) := by decide +kernel
theorem dX4_copy_109 : decode cX4_copy 109 = .ok (.iload 5, 2) := by decide +kernel
theorem dX4_copy_111 : decode cX4_copy 111 = .ok (.aload_n 3, 1) := by decide +kernel
theorem dX4_copy_112 : decode cX4_copy 112 = .ok (.iload 6, 2) := by decide +kernel
theorem dX4_copy_114 : decode cX4_copy 114 = .ok (.iload 5, 2) := by decide +kernel
theorem dX4_copy_116 : decode cX4_copy 116 = .ok (.invokevirtual 96, 3) := by decide +kernel
theorem dX4_copy_119 : decode cX4_copy 119 = .ok (.invokevirtual 83, 3) := by decide +kernel
theorem dX4_copy_122 : decode cX4_copy 122 = .ok (.iinc 6 1, 3) := by decide +kernel
theorem dX4_copy_125 : decode cX4_copy 125 = .ok (.goto (-30), 3) := by decide +kernel
theorem dX4_copy_128 : decode cX4_copy 128 = .ok (.iinc 5 1, 3) := by decide +kernel
theorem dX4_copy_131 : decode cX4_copy 131 = .ok (.goto (-49), 3) := by decide +kernel
theorem dX4_copy_134 : decode cX4_copy 134 = .ok (.iconst 1, 1) := by decide +kernel
theorem dX4_copy_135 : decode cX4_copy 135 = .ok (.ireturn, 1) := by decide +kernel
theorem dX4_less_0 : decode cX4_less 0 = .ok (.aload_n 0, 1) := by decide +kernel
theorem dX4_less_1 : decode cX4_less 1 = .ok (.iload_n 1, 1) := by decide +kernel
theorem dX4_less_2 : decode cX4_less 2 = .ok (.invokevirtual 55, 3) := by decide +kernel
theorem dX4_less_5 : decode cX4_less 5 = .ok (.astore_n 3, 1) := by decide +kernel
theorem dX4_less_6 : decode cX4_less 6 = .ok (.aload_n 0, 1) := by decide +kernel
theorem dX4_less_7 : decode cX4_less 7 = .ok (.iload_n 2, 1) := by decide +kernel
theorem dX4_less_8 : decode cX4_less 8 = .ok (.invokevirtual 55, 3) := by decide +kernel
theorem dX4_less_11 : decode cX4_less 11 = .ok (.astore 4, 2) := by decide +kernel
theorem dX4_less_13 : decode cX4_less 13 = .ok (.aload_n 3, 1) := by decide +kernel
theorem dX4_less_14 : decode cX4_less 14 = .ok (.ifnull 8, 3) := by decide +kernel
theorem dX4_less_17 : decode cX4_less 17 = .ok (.aload 4, 2) := by decide +kernel
theorem dX4_less_19 : decode cX4_less 19 = .ok (.ifnonnull 6, 3) := by decide +kernel
theorem dX4_less_22 : decode cX4_less 22 = .ok (.bipush (-101), 2) := by decide +kernel
theorem dX4_less_24 : decode cX4_less 24 = .ok (.ireturn, 1) := by decide +kernel
theorem dX4_less_25 : decode cX4_less 25 = .ok (.aload_n 3, 1) := by decide +kernel
theorem dX4_less_26 : decode cX4_less 26 = .ok (.getfield 71, 3) := by decide +kernel
theorem dX4_less_29 : decode cX4_less 29 = .ok (.ifCond .ne 11, 3) := by decide +kernel
theorem dX4_less_32 : decode cX4_less 32 = .ok (.aload 4, 2) := by decide +kernel
theorem dX4_less_34 : decode cX4_less 34 = .ok (.getfield 71, 3) := by decide +kernel
theorem dX4_less_37 : decode cX4_less 37 = .ok (.ifCond .eq 9, 3) := by decide +kernel
theorem dX4_less_40 : decode cX4_less 40 = .ok (.aload_n 0, 1) := by decide +kernel
theorem dX4_less_41 : decode cX4_less 41 = .ok (.iconst 1, 1) := by decide +kernel
theorem dX4_less_42 : decode cX4_less 42 = .ok (.invokevirtual 63, 3) := by decide +kernel
theorem dX4_less_45 : decode cX4_less 45 = .ok (.ireturn, 1) := by decide +kernel
theorem dX4_less_46 : decode cX4_less 46 = .ok (.aload_n 3, 1) := by decide +kernel
theorem dX4_less_47 : decode cX4_less 47 = .ok (.aload 4, 2) := by decide +kernel
theorem dX4_less_49 : decode cX4_less 49 = .ok (.invokevirtual 86, 3) := by decide +kernel
theorem dX4_less_52 : decode cX4_less 52 = .ok (.ifCond .ne 9, 3) := by decide +kernel
theorem dX4_less_55 : decode cX4_less 55 = .ok (.aload_n 0, 1) := by decide +kernel
theorem dX4_less_56 : decode cX4_less 56 = .ok (.iconst 5, 1) := by decide +kernel
theorem dX4_less_57 : decode cX4_less 57 = .ok (.invokevirtual 63, 3) := by decide +kernel
theorem dX4_less_60 : decode cX4_less 60 = .ok (.ireturn, 1) := by decide +kernel
theorem dX4_less_61 : decode cX4_less 61 = .ok (.iconst 0, 1) := by decide +kernel
theorem dX4_less_62 : decode cX4_less 62 = .ok (.istore 5, 2) := by decide +kernel
theorem dX4_less_64 : decode cX4_less 64 = .ok (.iload 5, 2) := by decide +kernel
theorem dX4_less_66 : decode cX4_less 66 = .ok (.aload 4, 2) := by decide +kernel
theorem dX4_less_68 : decode cX4_less 68 = .ok (.getfield 90, 3) := by decide +kernel
theorem dX4_less_71 : decode cX4_less 71 = .ok (.if_icmp .ge 55, 3) := by decide +kernel
theorem dX4_less_74 : decode cX4_less 74 = .ok (.iconst 0, 1) := by decide +kernel
theorem dX4_less_75 : decode cX4_less 75 = .ok (.istore 6, 2) := by decide +kernel
theorem dX4_less_77 : decode cX4_less 77 = .ok (.iload 6, 2) := by decide +kernel
theorem dX4_less_79 : decode cX4_less 79 = .ok (.aload 4, 2) := by decide +kernel
theorem dX4_less_81 : decode cX4_less 81 = .ok (.getfield 93, 3) := by decide +kernel
theorem dX4_less_84 : decode cX4_less 84 = .ok (.if_icmp .ge 36, 3) := by decide +kernel
theorem dX4_less_87 : decode cX4_less 87 = .ok (.aload 4, 2) := by decide +kernel
theorem dX4_less_89 : decode cX4_less 89 = .ok (.iload 6, 2) := by decide +kernel
theorem dX4_less_91 : decode cX4_less 91 = .ok (.iload 5, 2) := by decide +kernel
theorem dX4_less_93 : decode cX4_less 93 = .ok (.aload 4, 2) := by decide +kernel
theorem dX4_less_95 : decode cX4_less 95 = .ok (.iload 6, 2) := by decide +kernel
theorem dX4_less_97 : decode cX4_less 97 = .ok (.iload 5, 2) := by decide +kernel
theorem dX4_less_99 : decode cX4_less 99 = .ok (.invokevirtual 96, 3) := by decide +kernel
theorem dX4_less_102 : decode cX4_less 102 = .ok (.aload_n 3, 1) := by decide +kernel
theorem dX4_less_103 : decode cX4_less 103 = .ok (.iload 6, 2) := by decide +kernel
theorem dX4_less_105 : decode cX4_less 105 = .ok (.iload 5, 2) := by decide +kernel
theorem dX4_less_107 : decode cX4_less 107 = .ok (.invokevirtual 96, 3) := by decide +kernel
theorem dX4_less_110 : decode cX4_less 110 = .ok (.isub, 1) := by decide +kernel
theorem dX4_less_111 : decode cX4_less 111 = .ok (.invokevirtual 83, 3) := by decide +kernel
theorem dX4_less_114 : decode cX4_less 114 = .ok (.iinc 6 1, 3) := by decide +kernel
theorem dX4_less_117 : decode cX4_less 117 = .ok (.goto (-40), 3) := by decide +kernel
theorem dX4_less_120 : decode cX4_less 120 = .ok (.iinc 5 1, 3) := by decide +kernel
theorem dX4_less_123 : decode cX4_less 123 = .ok (.goto (-59), 3) := by decide +kernel
theorem dX4_less_126 : decode cX4_less 126 = .ok (.iconst 1, 1) := by decide +kernel
theorem dX4_less_127 : decode cX4_less 127 = .ok (.ireturn, 1) := by decide +kernel
theorem dX4_lose_0 : decode cX4_lose 0 = .ok (.aload_n 0, 1) := by decide +kernel
theorem dX4_lose_1 : decode cX4_lose 1 = .ok (.iload_n 1, 1) := by decide +kernel
theorem dX4_lose_2 : decode cX4_lose 2 = .ok (.invokevirtual 55, 3) := by decide +kernel
theorem dX4_lose_5 : decode cX4_lose 5 = .ok (.astore_n 2, 1) := by decide +kernel
theorem dX4_lose_6 : decode cX4_lose 6 = .ok (.aload_n 2, 1) := by decide +kernel
theorem dX4_lose_7 : decode cX4_lose 7 = .ok (.ifnonnull 6, 3) := by decide +kernel
theorem dX4_lose_10 : decode cX4_lose 10 = .ok (.bipush (-101), 2) := by decide +kernel
theorem dX4_lose_12 : decode cX4_lose 12 = .ok (.ireturn, 1) := by decide +kernel
theorem dX4_lose_13 : decode cX4_lose 13 = .ok (.aload_n 2, 1) := by decide +kernel
theorem dX4_lose_14 : decode cX4_lose 14 = .ok (.getfield 71, 3) := by decide +kernel
theorem dX4_lose_17 : decode cX4_lose 17 = .ok (.ifCond .eq 9, 3) := by decide +kernel
theorem dX4_lose_20 : decode cX4_lose 20 = .ok (.aload_n 0, 1) := by decide +kernel
theorem dX4_lose_21 : decode cX4_lose 21 = .ok (.iconst 1, 1) := by decide +kernel
theorem dX4_lose_22 : decode cX4_lose 22 = .ok (.invokevirtual 63, 3) := by decide +kernel
theorem dX4_lose_25 : decode cX4_lose 25 = .ok (.ireturn, 1) := by decide +kernel
theorem dX4_lose_26 : decode cX4_lose 26 = .ok (.aload_n 2, 1) := by decide +kernel
theorem dX4_lose_27 : decode cX4_lose 27 = .ok (.iconst 1, 1) := by decide +kernel
theorem dX4_lose_28 : decode cX4_lose 28 = .ok (.putfield 71, 3) := by decide +kernel
theorem dX4_lose_31 : decode cX4_lose 31 = .ok (.iconst 1, 1) := by decide +kernel
theorem dX4_lose_32 : decode cX4_lose 32 = .ok (.ireturn, 1) := by decide +kernel
theorem dX4_bad_0 : decode cX4_bad 0 = .ok (.iload_n 1, 1) := by decide +kernel
theorem dX4_bad_1 : decode cX4_bad 1 = .ok (.iload_n 2, 1) := by decide +kernel
theorem dX4_bad_2 : decode cX4_bad 2 = .ok (.invokestatic 100, 3) := by decide +kernel
theorem dX4_bad_5 : decode cX4_bad 5 = .ok (.ifCond .ne 6, 3) := by decide +kernel
theorem dX4_bad_8 : decode cX4_bad 8 = .ok (.bipush (-102), 2) := by decide +kernel
theorem dX4_bad_10 : decode cX4_bad 10 = .ok (.ireturn, 1) := by decide +kernel
theorem dX4_bad_11 : decode cX4_bad 11 = .ok (.aload_n 0, 1) := by decide +kernel
theorem dX4_bad_12 : decode cX4_bad 12 = .ok (.getfield 15, 3) := by decide +kernel
theorem dX4_bad_15 : decode cX4_bad 15 = .ok (.iload_n 2, 1) := by decide +kernel
theorem dX4_bad_16 : decode cX4_bad 16 = .ok (.bipush 20, 2) := by decide +kernel
theorem dX4_bad_18 : decode cX4_bad 18 = .ok (.imul, 1) := by decide +kernel
theorem dX4_bad_19 : decode cX4_bad 19 = .ok (.iload_n 1, 1) := by decide +kernel
theorem dX4_bad_20 : decode cX4_bad 20 = .ok (.iadd, 1) := by decide +kernel
theorem dX4_bad_21 : decode cX4_bad 21 = .ok (.baload, 1) := by decide +kernel
theorem dX4_bad_22 : decode cX4_bad 22 = .ok (.ifCond .eq 7, 3) := by decide +kernel
theorem dX4_bad_25 : decode cX4_bad 25 = .ok (.iconst 1, 1) := by decide +kernel
theorem dX4_bad_26 : decode cX4_bad 26 = .ok (.goto 4, 3) := by decide +kernel
theorem dX4_bad_29 : decode cX4_bad 29 = .ok (.iconst 0, 1) := by decide +kernel
theorem dX4_bad_30 : decode cX4_bad 30 = .ok (.istore 4, 2) := by decide +kernel
theorem dX4_bad_32 : decode cX4_bad 32 = .ok (.aload_n 0, 1) := by decide +kernel
theorem dX4_bad_33 : decode cX4_bad 33 = .ok (.getfield 15, 3) := by decide +kernel
theorem dX4_bad_36 : decode cX4_bad 36 = .ok (.iload_n 2, 1) := by decide +kernel
theorem dX4_bad_37 : decode cX4_bad 37 = .ok (.bipush 20, 2) := by decide +kernel
theorem dX4_bad_39 : decode cX4_bad 39 = .ok (.imul, 1) := by decide +kernel
theorem dX4_bad_40 : decode cX4_bad 40 = .ok (.iload_n 1, 1) := by decide +kernel
theorem dX4_bad_41 : decode cX4_bad 41 = .ok (.iadd, 1) := by decide +kernel
theorem dX4_bad_42 : decode cX4_bad 42 = .ok (.iload_n 3, 1) := by decide +kernel
theorem dX4_bad_43 : decode cX4_bad 43 = .ok (.bastore, 1) := by decide +kernel
theorem dX4_bad_44 : decode cX4_bad 44 = .ok (.iload 4, 2) := by decide +kernel
theorem dX4_bad_46 : decode cX4_bad 46 = .ok (.ireturn, 1) := by decide +kernel
theorem dX4_look_0 : decode cX4_look 0 = .ok (.aload_n 0, 1) := by decide +kernel
theorem dX4_look_1 : decode cX4_look 1 = .ok (.iload_n 1, 1) := by decide +kernel
theorem dX4_look_2 : decode cX4_look 2 = .ok (.invokevirtual 55, 3) := by decide +kernel
theorem dX4_look_5 : decode cX4_look 5 = .ok (.astore 4, 2) := by decide +kernel
theorem dX4_look_7 : decode cX4_look 7 = .ok (.aload 4, 2) := by decide +kernel
theorem dX4_look_9 : decode cX4_look 9 = .ok (.ifnonnull 6, 3) := by decide +kernel
theorem dX4_look_12 : decode cX4_look 12 = .ok (.bipush (-101), 2) := by decide +kernel
theorem dX4_look_14 : decode cX4_look 14 = .ok (.ireturn, 1) := by decide +kernel
theorem dX4_look_15 : decode cX4_look 15 = .ok (.aload 4, 2) := by decide +kernel
theorem dX4_look_17 : decode cX4_look 17 = .ok (.getfield 71, 3) := by decide +kernel
theorem dX4_look_20 : decode cX4_look 20 = .ok (.ifCond .eq 9, 3) := by decide +kernel
theorem dX4_look_23 : decode cX4_look 23 = .ok (.aload_n 0, 1) := by decide +kernel
theorem dX4_look_24 : decode cX4_look 24 = .ok (.iconst 1, 1) := by decide +kernel
theorem dX4_look_25 : decode cX4_look 25 = .ok (.invokevirtual 63, 3) := by decide +kernel
theorem dX4_look_28 : decode cX4_look 28 = .ok (.ireturn, 1) := by decide +kernel
theorem dX4_look_29 : decode cX4_look 29 = .ok (.aload 4, 2) := by decide +kernel
theorem dX4_look_31 : decode cX4_look 31 = .ok (.iload_n 2, 1) := by decide +kernel
theorem dX4_look_32 : decode cX4_look 32 = .ok (.iload_n 3, 1) := by decide +kernel
theorem dX4_look_33 : decode cX4_look 33 = .ok (.invokevirtual 79, 3) := by decide +kernel
theorem dX4_look_36 : decode cX4_look 36 = .ok (.ifCond .ne 9, 3) := by decide +kernel
theorem dX4_look_39 : decode cX4_look 39 = .ok (.aload_n 0, 1) := by decide +kernel
theorem dX4_look_40 : decode cX4_look 40 = .ok (.iconst 2, 1) := by decide +kernel
theorem dX4_look_41 : decode cX4_look 41 = .ok (.invokevirtual 63, 3) := by decide +kernel
theorem dX4_look_44 : decode cX4_look 44 = .ok (.ireturn, 1) := by decide +kernel
theorem dX4_look_45 : decode cX4_look 45 = .ok (.aload_n 0, 1) := by decide +kernel
theorem dX4_look_46 : decode cX4_look 46 = .ok (.aload 4, 2) := by decide +kernel
theorem dX4_look_48 : decode cX4_look 48 = .ok (.iload_n 2, 1) := by decide +kernel
theorem dX4_look_49 : decode cX4_look 49 = .ok (.iload_n 3, 1) := by decide +kernel
theorem dX4_look_50 : decode cX4_look 50 = .ok (.invokevirtual 96, 3) := by decide +kernel
theorem dX4_look_53 : decode cX4_look 53 = .ok (.putfield 103, 3) := by decide +kernel
theorem dX4_look_56 : decode cX4_look 56 = .ok (.iconst 1, 1) := by decide +kernel
theorem dX4_look_57 : decode cX4_look 57 = .ok (.ireturn, 1) := by decide +kernel
theorem dX4_comb_0 : decode cX4_comb 0 = .ok (.iload_n 1, 1) := by decide +kernel
theorem dX4_comb_1 : decode cX4_comb 1 = .ok (.iconst 0, 1) := by decide +kernel
theorem dX4_comb_2 : decode cX4_comb 2 = .ok (.sipush 304, 3) := by decide +kernel
theorem dX4_comb_5 : decode cX4_comb 5 = .ok (.invokestatic 106, 3) := by decide +kernel
theorem dX4_comb_8 : decode cX4_comb 8 = .ok (.ifCond .eq 23, 3) := by decide +kernel
theorem dX4_comb_11 : decode cX4_comb 11 = .ok (.iload_n 2, 1) := by decide +kernel
theorem dX4_comb_12 : decode cX4_comb 12 = .ok (.iconst 0, 1) := by decide +kernel
theorem dX4_comb_13 : decode cX4_comb 13 = .ok (.sipush 304, 3) := by decide +kernel
theorem dX4_comb_16 : decode cX4_comb 16 = .ok (.invokestatic 106, 3) := by decide +kernel
theorem dX4_comb_19 : decode cX4_comb 19 = .ok (.ifCond .eq 12, 3) := by decide +kernel
theorem dX4_comb_22 : decode cX4_comb 22 = .ok (.iload_n 3, 1) := by decide +kernel
theorem dX4_comb_23 : decode cX4_comb 23 = .ok (.iconst 0, 1) := by decide +kernel
theorem dX4_comb_24 : decode cX4_comb 24 = .ok (.iconst 3, 1) := by decide +kernel
theorem dX4_comb_25 : decode cX4_comb 25 = .ok (.invokestatic 106, 3) := by decide +kernel
theorem dX4_comb_28 : decode cX4_comb 28 = .ok (.ifCond .ne 6, 3) := by decide +kernel
theorem dX4_comb_31 : decode cX4_comb 31 = .ok (.bipush (-102), 2) := by decide +kernel
theorem dX4_comb_33 : decode cX4_comb 33 = .ok (.ireturn, 1) := by decide +kernel
theorem dX4_comb_34 : decode cX4_comb 34 = .ok (.aload_n 0, 1) := by decide +kernel
theorem dX4_comb_35 : decode cX4_comb 35 = .ok (.getfield 110, 3) := by decide +kernel
theorem dX4_comb_38 : decode cX4_comb 38 = .ok (.iconst 4, 1) := by decide +kernel
theorem dX4_comb_39 : decode cX4_comb 39 = .ok (.if_icmp .lt 6, 3) := by decide +kernel
theorem dX4_comb_42 : decode cX4_comb 42 = .ok (.bipush (-104), 2) := by decide +kernel
theorem dX4_comb_44 : decode cX4_comb 44 = .ok (.ireturn, 1) := by decide +kernel
theorem dX4_comb_45 : decode cX4_comb 45 = .ok (.aload_n 0, 1) := by decide +kernel
theorem dX4_comb_46 : decode cX4_comb 46 = .ok (.getfield 21, 3) := by decide +kernel
theorem dX4_comb_49 : decode cX4_comb 49 = .ok (.aload_n 0, 1) := by decide +kernel
theorem dX4_comb_50 : decode cX4_comb 50 = .ok (.getfield 110, 3) := by decide +kernel
theorem dX4_comb_53 : decode cX4_comb 53 = .ok (.aaload, 1) := by decide +kernel
theorem dX4_comb_54 : decode cX4_comb 54 = .ok (.astore 4, 2) := by decide +kernel
theorem dX4_comb_56 : decode cX4_comb 56 = .ok (.aload 4, 2) := by decide +kernel
theorem dX4_comb_58 : decode cX4_comb 58 = .ok (.iload_n 1, 1) := by decide +kernel
theorem dX4_comb_59 : decode cX4_comb 59 = .ok (.putfield 113, 3) := by decide +kernel
theorem dX4_comb_62 : decode cX4_comb 62 = .ok (.aload 4, 2) := by decide +kernel
theorem dX4_comb_64 : decode cX4_comb 64 = .ok (.iload_n 2, 1) := by decide +kernel
theorem dX4_comb_65 : decode cX4_comb 65 = .ok (.putfield 116, 3) := by decide +kernel
theorem dX4_comb_68 : decode cX4_comb 68 = .ok (.aload 4, 2) := by decide +kernel
theorem dX4_comb_70 : decode cX4_comb 70 = .ok (.iload_n 3, 1) := by decide +kernel
theorem dX4_comb_71 : decode cX4_comb 71 = .ok (.putfield 119, 3) := by decide +kernel
theorem dX4_comb_74 : decode cX4_comb 74 = .ok (.aload_n 0, 1) := by decide +kernel
theorem dX4_comb_75 : decode cX4_comb 75 = .ok (.dup, 1) := by decide +kernel
theorem dX4_comb_76 : decode cX4_comb 76 = .ok (.getfield 110, 3) := by decide +kernel
theorem dX4_comb_79 : decode cX4_comb 79 = .ok (.iconst 1, 1) := by decide +kernel
theorem dX4_comb_80 : decode cX4_comb 80 = .ok (.iadd, 1) := by decide +kernel
theorem dX4_comb_81 : decode cX4_comb 81 = .ok (.putfield 110, 3) := by decide +kernel
theorem dX4_comb_84 : decode cX4_comb 84 = .ok (.aload_n 0, 1) := by decide +kernel
theorem dX4_comb_85 : decode cX4_comb 85 = .ok (.getfield 110, 3) := by decide +kernel
theorem dX4_comb_88 : decode cX4_comb 88 = .ok (.iconst 1, 1) := by decide +kernel
theorem dX4_comb_89 : decode cX4_comb 89 = .ok (.isub, 1) := by decide +kernel
theorem dX4_comb_90 : decode cX4_comb 90 = .ok (.ireturn, 1) := by decide +kernel
theorem dX4_told_0 : decode cX4_told 0 = .ok (.aload_n 0, 1) := by decide +kernel
theorem dX4_told_1 : decode cX4_told 1 = .ok (.iload_n 1, 1) := by decide +kernel
theorem dX4_told_2 : decode cX4_told 2 = .ok (.invokevirtual 122, 3) := by decide +kernel
theorem dX4_told_5 : decode cX4_told 5 = .ok (.astore_n 3, 1) := by decide +kernel
theorem dX4_told_6 : decode cX4_told 6 = .ok (.aload_n 3, 1) := by decide +kernel
theorem dX4_told_7 : decode cX4_told 7 = .ok (.ifnonnull 6, 3) := by decide +kernel
theorem dX4_told_10 : decode cX4_told 10 = .ok (.bipush (-101), 2) := by decide +kernel
theorem dX4_told_12 : decode cX4_told 12 = .ok (.ireturn, 1) := by decide +kernel
theorem dX4_told_13 : decode cX4_told 13 = .ok (.iload_n 2, 1) := by decide +kernel
theorem dX4_told_14 : decode cX4_told 14 = .ok (.iconst 0, 1) := by decide +kernel
theorem dX4_told_15 : decode cX4_told 15 = .ok (.bipush 7, 2) := by decide +kernel
theorem dX4_told_17 : decode cX4_told 17 = .ok (.invokestatic 106, 3) := by decide +kernel
theorem dX4_told_20 : decode cX4_told 20 = .ok (.ifCond .ne 6, 3) := by decide +kernel
theorem dX4_told_23 : decode cX4_told 23 = .ok (.bipush (-102), 2) := by decide +kernel
theorem dX4_told_25 : decode cX4_told 25 = .ok (.ireturn, 1) := by decide +kernel
theorem dX4_told_26 : decode cX4_told 26 = .ok (.aload_n 3, 1) := by decide +kernel
theorem dX4_told_27 : decode cX4_told 27 = .ok (.iload_n 2, 1) := by decide +kernel
theorem dX4_told_28 : decode cX4_told 28 = .ok (.invokestatic 126, 3) := by decide +kernel
theorem dX4_told_31 : decode cX4_told 31 = .ok (.ireturn, 1) := by decide +kernel
theorem dX4_band_0 : decode cX4_band 0 = .ok (.aload_n 0, 1) := by decide +kernel
theorem dX4_band_1 : decode cX4_band 1 = .ok (.iload_n 1, 1) := by decide +kernel
theorem dX4_band_2 : decode cX4_band 2 = .ok (.invokevirtual 122, 3) := by decide +kernel
theorem dX4_band_5 : decode cX4_band 5 = .ok (.astore 5, 2) := by decide +kernel
theorem dX4_band_7 : decode cX4_band 7 = .ok (.aload_n 0, 1) := by decide +kernel
theorem dX4_band_8 : decode cX4_band 8 = .ok (.iload_n 2, 1) := by decide +kernel
theorem dX4_band_9 : decode cX4_band 9 = .ok (.invokevirtual 55, 3) := by decide +kernel
theorem dX4_band_12 : decode cX4_band 12 = .ok (.astore 6, 2) := by decide +kernel
theorem dX4_band_14 : decode cX4_band 14 = .ok (.aload 5, 2) := by decide +kernel
theorem dX4_band_16 : decode cX4_band 16 = .ok (.ifnull 8, 3) := by decide +kernel
theorem dX4_band_19 : decode cX4_band 19 = .ok (.aload 6, 2) := by decide +kernel
theorem dX4_band_21 : decode cX4_band 21 = .ok (.ifnonnull 6, 3) := by decide +kernel
theorem dX4_band_24 : decode cX4_band 24 = .ok (.bipush (-101), 2) := by decide +kernel
theorem dX4_band_26 : decode cX4_band 26 = .ok (.ireturn, 1) := by decide +kernel
theorem dX4_band_27 : decode cX4_band 27 = .ok (.iload 4, 2) := by decide +kernel
theorem dX4_band_29 : decode cX4_band 29 = .ok (.ifCond .eq 12, 3) := by decide +kernel
theorem dX4_band_32 : decode cX4_band 32 = .ok (.iload 4, 2) := by decide +kernel
theorem dX4_band_34 : decode cX4_band 34 = .ok (.iconst 1, 1) := by decide +kernel
theorem dX4_band_35 : decode cX4_band 35 = .ok (.if_icmp .eq 6, 3) := by decide +kernel
theorem dX4_band_38 : decode cX4_band 38 = .ok (.bipush (-102), 2) := by decide +kernel
theorem dX4_band_40 : decode cX4_band 40 = .ok (.ireturn, 1) := by decide +kernel
theorem dX4_band_41 : decode cX4_band 41 = .ok (.aload 6, 2) := by decide +kernel
theorem dX4_band_43 : decode cX4_band 43 = .ok (.getfield 71, 3) := by decide +kernel
theorem dX4_band_46 : decode cX4_band 46 = .ok (.ifCond .eq 9, 3) := by decide +kernel
theorem dX4_band_49 : decode cX4_band 49 = .ok (.aload_n 0, 1) := by decide +kernel
theorem dX4_band_50 : decode cX4_band 50 = .ok (.iconst 1, 1) := by decide +kernel
theorem dX4_band_51 : decode cX4_band 51 = .ok (.invokevirtual 63, 3) := by decide +kernel
theorem dX4_band_54 : decode cX4_band 54 = .ok (.ireturn, 1) := by decide +kernel
theorem dX4_band_55 : decode cX4_band 55 = .ok (.iload_n 3, 1) := by decide +kernel
theorem dX4_band_56 : decode cX4_band 56 = .ok (.iconst 0, 1) := by decide +kernel
theorem dX4_band_57 : decode cX4_band 57 = .ok (.aload 6, 2) := by decide +kernel
theorem dX4_band_59 : decode cX4_band 59 = .ok (.getfield 93, 3) := by decide +kernel
theorem dX4_band_62 : decode cX4_band 62 = .ok (.iconst 1, 1) := by decide +kernel
theorem dX4_band_63 : decode cX4_band 63 = .ok (.isub, 1) := by decide +kernel
theorem dX4_band_64 : decode cX4_band 64 = .ok (.invokestatic 106, 3) := by decide +kernel
theorem dX4_band_67 : decode cX4_band 67 = .ok (.ifCond .ne 9, 3) := by decide +kernel
theorem dX4_band_70 : decode cX4_band 70 = .ok (.aload_n 0, 1) := by decide +kernel
theorem dX4_band_71 : decode cX4_band 71 = .ok (.iconst 2, 1) := by decide +kernel
theorem dX4_band_72 : decode cX4_band 72 = .ok (.invokevirtual 63, 3) := by decide +kernel
theorem dX4_band_75 : decode cX4_band 75 = .ok (.ireturn, 1) := by decide +kernel
theorem dX4_band_76 : decode cX4_band 76 = .ok (.aload 5, 2) := by decide +kernel
theorem dX4_band_78 : decode cX4_band 78 = .ok (.iload_n 3, 1) := by decide +kernel
theorem dX4_band_79 : decode cX4_band 79 = .ok (.aload 6, 2) := by decide +kernel
theorem dX4_band_81 : decode cX4_band 81 = .ok (.invokevirtual 130, 3) := by decide +kernel
theorem dX4_band_84 : decode cX4_band 84 = .ok (.istore 7, 2) := by decide +kernel
theorem dX4_band_86 : decode cX4_band 86 = .ok (.aload 5, 2) := by decide +kernel
theorem dX4_band_88 : decode cX4_band 88 = .ok (.iload_n 3, 1) := by decide +kernel
theorem dX4_band_89 : decode cX4_band 89 = .ok (.aload 6, 2) := by decide +kernel
theorem dX4_band_91 : decode cX4_band 91 = .ok (.invokevirtual 134, 3) := by decide +kernel
theorem dX4_band_94 : decode cX4_band 94 = .ok (.istore 8, 2) := by decide +kernel
theorem dX4_band_96 : decode cX4_band 96 = .ok (.iload 7, 2) := by decide +kernel
theorem dX4_band_98 : decode cX4_band 98 = .ok (.iload 8, 2) := by decide +kernel
theorem dX4_band_100 : decode cX4_band 100 = .ok (.if_icmp .le 11, 3) := by decide +kernel
theorem dX4_band_103 : decode cX4_band 103 = .ok (.aload_n 0, 1) := by decide +kernel
theorem dX4_band_104 : decode cX4_band 104 = .ok (.iconst (-1), 1) := by decide +kernel
theorem dX4_band_105 : decode cX4_band 105 = .ok (.putfield 103, 3) := by decide +kernel
theorem dX4_band_108 : decode cX4_band 108 = .ok (.goto 19, 3) := by decide +kernel
theorem dX4_band_111 : decode cX4_band 111 = .ok (.aload_n 0, 1) := by decide +kernel
theorem dX4_band_112 : decode cX4_band 112 = .ok (.iload 4, 2) := by decide +kernel
theorem dX4_band_114 : decode cX4_band 114 = .ok (.ifCond .ne 8, 3) := by decide +kernel
theorem dX4_band_117 : decode cX4_band 117 = .ok (.iload 7, 2) := by decide +kernel
theorem dX4_band_119 : decode cX4_band 119 = .ok (.goto 5, 3) := by decide +kernel
theorem dX4_band_122 : decode cX4_band 122 = .ok (.iload 8, 2) := by decide +kernel
theorem dX4_band_124 : decode cX4_band 124 = .ok (.putfield 103, 3) := by decide +kernel
theorem dX4_band_127 : decode cX4_band 127 = .ok (.iconst 1, 1) := by decide +kernel
theorem dX4_band_128 : decode cX4_band 128 = .ok (.ireturn, 1) := by decide +kernel
theorem dX4_trace_0 : decode cX4_trace 0 = .ok (.aload_n 0, 1) := by decide +kernel
theorem dX4_trace_1 : decode cX4_trace 1 = .ok (.iload_n 1, 1) := by decide +kernel
theorem dX4_trace_2 : decode cX4_trace 2 = .ok (.invokevirtual 122, 3) := by decide +kernel
theorem dX4_trace_5 : decode cX4_trace 5 = .ok (.astore_n 3, 1) := by decide +kernel
theorem dX4_trace_6 : decode cX4_trace 6 = .ok (.aload_n 0, 1) := by decide +kernel
theorem dX4_trace_7 : decode cX4_trace 7 = .ok (.iload_n 2, 1) := by decide +kernel
theorem dX4_trace_8 : decode cX4_trace 8 = .ok (.invokevirtual 55, 3) := by decide +kernel
theorem dX4_trace_11 : decode cX4_trace 11 = .ok (.astore 4, 2) := by decide +kernel
theorem dX4_trace_13 : decode cX4_trace 13 = .ok (.aload_n 3, 1) := by decide +kernel
theorem dX4_trace_14 : decode cX4_trace 14 = .ok (.ifnull 8, 3) := by decide +kernel
theorem dX4_trace_17 : decode cX4_trace 17 = .ok (.aload 4, 2) := by decide +kernel
theorem dX4_trace_19 : decode cX4_trace 19 = .ok (.ifnonnull 6, 3) := by decide +kernel
theorem dX4_trace_22 : decode cX4_trace 22 = .ok (.bipush (-101), 2) := by decide +kernel
theorem dX4_trace_24 : decode cX4_trace 24 = .ok (.ireturn, 1) := by decide +kernel
theorem dX4_trace_25 : decode cX4_trace 25 = .ok (.aload 4, 2) := by decide +kernel
theorem dX4_trace_27 : decode cX4_trace 27 = .ok (.getfield 71, 3) := by decide +kernel
theorem dX4_trace_30 : decode cX4_trace 30 = .ok (.ifCond .eq 9, 3) := by decide +kernel
theorem dX4_trace_33 : decode cX4_trace 33 = .ok (.aload_n 0, 1) := by decide +kernel
theorem dX4_trace_34 : decode cX4_trace 34 = .ok (.iconst 1, 1) := by decide +kernel
theorem dX4_trace_35 : decode cX4_trace 35 = .ok (.invokevirtual 63, 3) := by decide +kernel
theorem dX4_trace_38 : decode cX4_trace 38 = .ok (.ireturn, 1) := by decide +kernel
theorem dX4_trace_39 : decode cX4_trace 39 = .ok (.aload_n 0, 1) := by decide +kernel
theorem dX4_trace_40 : decode cX4_trace 40 = .ok (.aload_n 3, 1) := by decide +kernel
theorem dX4_trace_41 : decode cX4_trace 41 = .ok (.aload 4, 2) := by decide +kernel
theorem dX4_trace_43 : decode cX4_trace 43 = .ok (.iconst 0, 1) := by decide +kernel
theorem dX4_trace_44 : decode cX4_trace 44 = .ok (.invokevirtual 137, 3) := by decide +kernel
theorem dX4_trace_47 : decode cX4_trace 47 = .ok (.istore 5, 2) := by decide +kernel
theorem dX4_trace_49 : decode cX4_trace 49 = .ok (.aload_n 0, 1) := by decide +kernel
theorem dX4_trace_50 : decode cX4_trace 50 = .ok (.aload_n 3, 1) := by decide +kernel
theorem dX4_trace_51 : decode cX4_trace 51 = .ok (.aload 4, 2) := by decide +kernel
theorem dX4_trace_53 : decode cX4_trace 53 = .ok (.aload 4, 2) := by decide +kernel
theorem dX4_trace_55 : decode cX4_trace 55 = .ok (.getfield 93, 3) := by decide +kernel
theorem dX4_trace_58 : decode cX4_trace 58 = .ok (.iconst 1, 1) := by decide +kernel
theorem dX4_trace_59 : decode cX4_trace 59 = .ok (.isub, 1) := by decide +kernel
theorem dX4_trace_60 : decode cX4_trace 60 = .ok (.invokevirtual 137, 3) := by decide +kernel
theorem dX4_trace_63 : decode cX4_trace 63 = .ok (.istore 6, 2) := by decide +kernel
theorem dX4_trace_65 : decode cX4_trace 65 = .ok (.iload 5, 2) := by decide +kernel
theorem dX4_trace_67 : decode cX4_trace 67 = .ok (.iconst (-1), 1) := by decide +kernel
theorem dX4_trace_68 : decode cX4_trace 68 = .ok (.if_icmp .eq 9, 3) := by decide +kernel
theorem dX4_trace_71 : decode cX4_trace 71 = .ok (.aload_n 3, 1) := by decide +kernel
theorem dX4_trace_72 : decode cX4_trace 72 = .ok (.iload 5, 2) := by decide +kernel
theorem dX4_trace_74 : decode cX4_trace 74 = .ok (.putfield 113, 3) := by decide +kernel
theorem dX4_trace_77 : decode cX4_trace 77 = .ok (.iload 6, 2) := by decide +kernel
theorem dX4_trace_79 : decode cX4_trace 79 = .ok (.iconst (-1), 1) := by decide +kernel
theorem dX4_trace_80 : decode cX4_trace 80 = .ok (.if_icmp .eq 9, 3) := by decide +kernel
theorem dX4_trace_83 : decode cX4_trace 83 = .ok (.aload_n 3, 1) := by decide +kernel
theorem dX4_trace_84 : decode cX4_trace 84 = .ok (.iload 6, 2) := by decide +kernel
theorem dX4_trace_86 : decode cX4_trace 86 = .ok (.putfield 116, 3) := by decide +kernel
theorem dX4_trace_89 : decode cX4_trace 89 = .ok (.iconst 1, 1) := by decide +kernel
theorem dX4_trace_90 : decode cX4_trace 90 = .ok (.ireturn, 1) := by decide +kernel
theorem dX4_draw_0 : decode cX4_draw 0 = .ok (.aload_n 0, 1) := by decide +kernel
theorem dX4_draw_1 : decode cX4_draw 1 = .ok (.iload_n 1, 1) := by decide +kernel
theorem dX4_draw_2 : decode cX4_draw 2 = .ok (.invokevirtual 122, 3) := by decide +kernel
theorem dX4_draw_5 : decode cX4_draw 5 = .ok (.astore 5, 2) := by decide +kernel
theorem dX4_draw_7 : decode cX4_draw 7 = .ok (.aload_n 0, 1) := by decide +kernel
theorem dX4_draw_8 : decode cX4_draw 8 = .ok (.iload_n 2, 1) := by decide +kernel
theorem dX4_draw_9 : decode cX4_draw 9 = .ok (.invokevirtual 55, 3) := by decide +kernel
theorem dX4_draw_12 : decode cX4_draw 12 = .ok (.astore 6, 2) := by decide +kernel
theorem dX4_draw_14 : decode cX4_draw 14 = .ok (.aload_n 0, 1) := by decide +kernel
theorem dX4_draw_15 : decode cX4_draw 15 = .ok (.iload_n 3, 1) := by decide +kernel
theorem dX4_draw_16 : decode cX4_draw 16 = .ok (.invokevirtual 55, 3) := by decide +kernel
theorem dX4_draw_19 : decode cX4_draw 19 = .ok (.astore 7, 2) := by decide +kernel
theorem dX4_draw_21 : decode cX4_draw 21 = .ok (.aload 5, 2) := by decide +kernel
theorem dX4_draw_23 : decode cX4_draw 23 = .ok (.ifnull 13, 3) := by decide +kernel
theorem dX4_draw_26 : decode cX4_draw 26 = .ok (.aload 6, 2) := by decide +kernel
theorem dX4_draw_28 : decode cX4_draw 28 = .ok (.ifnull 8, 3) := by decide +kernel
theorem dX4_draw_31 : decode cX4_draw 31 = .ok (.aload 7, 2) := by decide +kernel
theorem dX4_draw_33 : decode cX4_draw 33 = .ok (.ifnonnull 6, 3) := by decide +kernel
theorem dX4_draw_36 : decode cX4_draw 36 = .ok (.bipush (-101), 2) := by decide +kernel
theorem dX4_draw_38 : decode cX4_draw 38 = .ok (.ireturn, 1) := by decide +kernel
theorem dX4_draw_39 : decode cX4_draw 39 = .ok (.iload 4, 2) := by decide +kernel
theorem dX4_draw_41 : decode cX4_draw 41 = .ok (.iconst 0, 1) := by decide +kernel
theorem dX4_draw_42 : decode cX4_draw 42 = .ok (.bipush 100, 2) := by decide +kernel
theorem dX4_draw_44 : decode cX4_draw 44 = .ok (.invokestatic 106, 3) := by decide +kernel
theorem dX4_draw_47 : decode cX4_draw 47 = .ok (.ifCond .ne 6, 3) := by decide +kernel
theorem dX4_draw_50 : decode cX4_draw 50 = .ok (.bipush (-102), 2) := by decide +kernel
theorem dX4_draw_52 : decode cX4_draw 52 = .ok (.ireturn, 1) := by decide +kernel
theorem dX4_draw_53 : decode cX4_draw 53 = .ok (.aload 6, 2) := by decide +kernel
theorem dX4_draw_55 : decode cX4_draw 55 = .ok (.getfield 71, 3) := by decide +kernel
theorem dX4_draw_58 : decode cX4_draw 58 = .ok (.ifCond .ne 11, 3) := by decide +kernel
theorem dX4_draw_61 : decode cX4_draw 61 = .ok (.aload 7, 2) := by decide +kernel
theorem dX4_draw_63 : decode cX4_draw 63 = .ok (.getfield 71, 3) := by decide +kernel
theorem dX4_draw_66 : decode cX4_draw 66 = .ok (.ifCond .eq 9, 3) := by decide +kernel
theorem dX4_draw_69 : decode cX4_draw 69 = .ok (.aload_n 0, 1) := by decide +kernel
theorem dX4_draw_70 : decode cX4_draw 70 = .ok (.iconst 1, 1) := by decide +kernel
theorem dX4_draw_71 : decode cX4_draw 71 = .ok (.invokevirtual 63, 3) := by decide +kernel
theorem dX4_draw_74 : decode cX4_draw 74 = .ok (.ireturn, 1) := by decide +kernel
theorem dX4_draw_75 : decode cX4_draw 75 = .ok (.aload 6, 2) := by decide +kernel
theorem dX4_draw_77 : decode cX4_draw 77 = .ok (.aload 7, 2) := by decide +kernel
theorem dX4_draw_79 : decode cX4_draw 79 = .ok (.invokevirtual 86, 3) := by decide +kernel
theorem dX4_draw_82 : decode cX4_draw 82 = .ok (.ifCond .ne 9, 3) := by decide +kernel
theorem dX4_draw_85 : decode cX4_draw 85 = .ok (.aload_n 0, 1) := by decide +kernel
theorem dX4_draw_86 : decode cX4_draw 86 = .ok (.iconst 5, 1) := by decide +kernel
theorem dX4_draw_87 : decode cX4_draw 87 = .ok (.invokevirtual 63, 3) := by decide +kernel
theorem dX4_draw_90 : decode cX4_draw 90 = .ok (.ireturn, 1) := by decide +kernel
theorem dX4_draw_91 : decode cX4_draw 91 = .ok (.aload 5, 2) := by decide +kernel
theorem dX4_draw_93 : decode cX4_draw 93 = .ok (.aload 6, 2) := by decide +kernel
theorem dX4_draw_95 : decode cX4_draw 95 = .ok (.getfield 93, 3) := by decide +kernel
theorem dX4_draw_98 : decode cX4_draw 98 = .ok (.putfield 141, 3) := by decide +kernel
theorem dX4_draw_101 : decode cX4_draw 101 = .ok (.iconst 0, 1) := by decide +kernel
theorem dX4_draw_102 : decode cX4_draw 102 = .ok (.istore 8, 2) := by decide +kernel
theorem dX4_draw_104 : decode cX4_draw 104 = .ok (.iload 8, 2) := by decide +kernel
theorem dX4_draw_106 : decode cX4_draw 106 = .ok (.aload 5, 2) := by decide +kernel
theorem dX4_draw_108 : decode cX4_draw 108 = .ok (.getfield 141, 3) := by decide +kernel
theorem dX4_draw_111 : decode cX4_draw 111 = .ok (.if_icmp .ge 42, 3) := by decide +kernel
theorem dX4_draw_114 : decode cX4_draw 114 = .ok (.iload 8, 2) := by decide +kernel
theorem dX4_draw_116 : decode cX4_draw 116 = .ok (.aload 5, 2) := by decide +kernel
theorem dX4_draw_118 : decode cX4_draw 118 = .ok (.getfield 144, 3) := by decide +kernel
theorem dX4_draw_121 : decode cX4_draw 121 = .ok (.arraylength, 1) := by decide +kernel
theorem dX4_draw_122 : decode cX4_draw 122 = .ok (.if_icmp .ge 31, 3) := by decide +kernel
theorem dX4_draw_125 : decode cX4_draw 125 = .ok (.aload 5, 2) := by decide +kernel
theorem dX4_draw_127 : decode cX4_draw 127 = .ok (.getfield 144, 3) := by decide +kernel
theorem dX4_draw_130 : decode cX4_draw 130 = .ok (.iload 8, 2) := by decide +kernel
theorem dX4_draw_132 : decode cX4_draw 132 = .ok (.aload_n 0, 1) := by decide +kernel
theorem dX4_draw_133 : decode cX4_draw 133 = .ok (.aload 5, 2) := by decide +kernel
theorem dX4_draw_135 : decode cX4_draw 135 = .ok (.aload 6, 2) := by decide +kernel
theorem dX4_draw_137 : decode cX4_draw 137 = .ok (.aload 7, 2) := by decide +kernel
theorem dX4_draw_139 : decode cX4_draw 139 = .ok (.iload 8, 2) := by decide +kernel
theorem dX4_draw_141 : decode cX4_draw 141 = .ok (.iload 4, 2) := by decide +kernel
theorem dX4_draw_143 : decode cX4_draw 143 = .ok (.invokevirtual 147, 3) := by decide +kernel
theorem dX4_draw_146 : decode cX4_draw 146 = .ok (.lastore, 1) := by decide +kernel
theorem dX4_draw_147 : decode cX4_draw 147 = .ok (.iinc 8 1, 3) := by decide +kernel
theorem dX4_draw_150 : decode cX4_draw 150 = .ok (.goto (-46), 3) := by decide +kernel
theorem dX4_draw_153 : decode cX4_draw 153 = .ok (.aload 5, 2) := by decide +kernel
theorem dX4_draw_155 : decode cX4_draw 155 = .ok (.getfield 151, 3) := by decide +kernel
theorem dX4_draw_158 : decode cX4_draw 158 = .ok (.invokevirtual 154, 3) := by decide +kernel
theorem dX4_draw_161 : decode cX4_draw 161 = .ok (.aload 5, 2) := by decide +kernel
theorem dX4_draw_163 : decode cX4_draw 163 = .ok (.getfield 141, 3) := by decide +kernel
theorem dX4_draw_166 : decode cX4_draw 166 = .ok (.ireturn, 1) := by decide +kernel
theorem dX4_number_0 : decode cX4_number 0 = .ok (.aload_n 0, 1) := by decide +kernel
theorem dX4_number_1 : decode cX4_number 1 = .ok (.iload_n 1, 1) := by decide +kernel
theorem dX4_number_2 : decode cX4_number 2 = .ok (.invokevirtual 122, 3) := by decide +kernel
theorem dX4_number_5 : decode cX4_number 5 = .ok (.astore_n 3, 1) := by decide +kernel
theorem dX4_number_6 : decode cX4_number 6 = .ok (.aload_n 3, 1) := by decide +kernel
theorem dX4_number_7 : decode cX4_number 7 = .ok (.ifnonnull 7, 3) := by decide +kernel
theorem dX4_number_10 : decode cX4_number 10 = .ok (.ldc2_w 157, 3) := by decide +kernel
theorem dX4_number_13 : decode cX4_number 13 = .ok (.lreturn, 1) := by decide +kernel
theorem dX4_number_14 : decode cX4_number 14 = .ok (.aload_n 3, 1) := by decide +kernel
theorem dX4_number_15 : decode cX4_number 15 = .ok (.iload_n 2, 1) := by decide +kernel
theorem dX4_number_16 : decode cX4_number 16 = .ok (.invokevirtual 159, 3) := by decide +kernel
theorem dX4_number_19 : decode cX4_number 19 = .ok (.ifCond .eq 11, 3) := by decide +kernel
theorem dX4_number_22 : decode cX4_number 22 = .ok (.aload_n 3, 1) := by decide +kernel
theorem dX4_number_23 : decode cX4_number 23 = .ok (.iload_n 2, 1) := by decide +kernel
theorem dX4_number_24 : decode cX4_number 24 = .ok (.invokevirtual 162, 3) := by decide +kernel
theorem dX4_number_27 : decode cX4_number 27 = .ok (.goto 6, 3) := by decide +kernel
theorem dX4_number_30 : decode cX4_number 30 = .ok (.ldc2_w 165, 3) := by decide +kernel
theorem dX4_number_33 : decode cX4_number 33 = .ok (.lreturn, 1) := by decide +kernel
theorem dX4_peaks_0 : decode cX4_peaks 0 = .ok (.aload_n 0, 1) := by decide +kernel
theorem dX4_peaks_1 : decode cX4_peaks 1 = .ok (.iload_n 1, 1) := by decide +kernel
theorem dX4_peaks_2 : decode cX4_peaks 2 = .ok (.invokevirtual 122, 3) := by decide +kernel
theorem dX4_peaks_5 : decode cX4_peaks 5 = .ok (.astore 4, 2) := by decide +kernel
theorem dX4_peaks_7 : decode cX4_peaks 7 = .ok (.aload 4, 2) := by decide +kernel
theorem dX4_peaks_9 : decode cX4_peaks 9 = .ok (.ifnonnull 6, 3) := by decide +kernel
theorem dX4_peaks_12 : decode cX4_peaks 12 = .ok (.bipush (-101), 2) := by decide +kernel
theorem dX4_peaks_14 : decode cX4_peaks 14 = .ok (.ireturn, 1) := by decide +kernel
theorem dX4_peaks_15 : decode cX4_peaks 15 = .ok (.lload_n 2, 1) := by decide +kernel
theorem dX4_peaks_16 : decode cX4_peaks 16 = .ok (.lconst 1, 1) := by decide +kernel
theorem dX4_peaks_17 : decode cX4_peaks 17 = .ok (.lcmp, 1) := by decide +kernel
theorem dX4_peaks_18 : decode cX4_peaks 18 = .ok (.ifCond .ge 6, 3) := by decide +kernel
theorem dX4_peaks_21 : decode cX4_peaks 21 = .ok (.bipush (-102), 2) := by decide +kernel
theorem dX4_peaks_23 : decode cX4_peaks 23 = .ok (.ireturn, 1) := by decide +kernel
theorem dX4_peaks_24 : decode cX4_peaks 24 = .ok (.aload_n 0, 1) := by decide +kernel
theorem dX4_peaks_25 : decode cX4_peaks 25 = .ok (.aload 4, 2) := by decide +kernel
theorem dX4_peaks_27 : decode cX4_peaks 27 = .ok (.lload_n 2, 1) := by decide +kernel
theorem dX4_peaks_28 : decode cX4_peaks 28 = .ok (.invokevirtual 167, 3) := by decide +kernel
theorem dX4_peaks_31 : decode cX4_peaks 31 = .ok (.ireturn, 1) := by decide +kernel
theorem dX4_peak_0 : decode cX4_peak 0 = .ok (.aload_n 0, 1) := by decide +kernel
theorem dX4_peak_1 : decode cX4_peak 1 = .ok (.iload_n 1, 1) := by decide +kernel
theorem dX4_peak_2 : decode cX4_peak 2 = .ok (.invokevirtual 122, 3) := by decide +kernel
theorem dX4_peak_5 : decode cX4_peak 5 = .ok (.astore 5, 2) := by decide +kernel
theorem dX4_peak_7 : decode cX4_peak 7 = .ok (.aload 5, 2) := by decide +kernel
theorem dX4_peak_9 : decode cX4_peak 9 = .ok (.ifnonnull 6, 3) := by decide +kernel
theorem dX4_peak_12 : decode cX4_peak 12 = .ok (.bipush (-101), 2) := by decide +kernel
theorem dX4_peak_14 : decode cX4_peak 14 = .ok (.ireturn, 1) := by decide +kernel
theorem dX4_peak_15 : decode cX4_peak 15 = .ok (.lload_n 2, 1) := by decide +kernel
theorem dX4_peak_16 : decode cX4_peak 16 = .ok (.lconst 1, 1) := by decide +kernel
theorem dX4_peak_17 : decode cX4_peak 17 = .ok (.lcmp, 1) := by decide +kernel
theorem dX4_peak_18 : decode cX4_peak 18 = .ok (.ifCond .ge 6, 3) := by decide +kernel
theorem dX4_peak_21 : decode cX4_peak 21 = .ok (.bipush (-102), 2) := by decide +kernel
theorem dX4_peak_23 : decode cX4_peak 23 = .ok (.ireturn, 1) := by decide +kernel
theorem dX4_peak_24 : decode cX4_peak 24 = .ok (.aload_n 0, 1) := by decide +kernel
theorem dX4_peak_25 : decode cX4_peak 25 = .ok (.aload 5, 2) := by decide +kernel
theorem dX4_peak_27 : decode cX4_peak 27 = .ok (.lload_n 2, 1) := by decide +kernel
theorem dX4_peak_28 : decode cX4_peak 28 = .ok (.invokevirtual 167, 3) := by decide +kernel
theorem dX4_peak_31 : decode cX4_peak 31 = .ok (.istore 6, 2) := by decide +kernel
theorem dX4_peak_33 : decode cX4_peak 33 = .ok (.iload 4, 2) := by decide +kernel
theorem dX4_peak_35 : decode cX4_peak 35 = .ok (.iconst 0, 1) := by decide +kernel
theorem dX4_peak_36 : decode cX4_peak 36 = .ok (.iload 6, 2) := by decide +kernel
theorem dX4_peak_38 : decode cX4_peak 38 = .ok (.iconst 1, 1) := by decide +kernel
theorem dX4_peak_39 : decode cX4_peak 39 = .ok (.isub, 1) := by decide +kernel
theorem dX4_peak_40 : decode cX4_peak 40 = .ok (.invokestatic 106, 3) := by decide +kernel
theorem dX4_peak_43 : decode cX4_peak 43 = .ok (.ifCond .eq 13, 3) := by decide +kernel
theorem dX4_peak_46 : decode cX4_peak 46 = .ok (.aload_n 0, 1) := by decide +kernel
theorem dX4_peak_47 : decode cX4_peak 47 = .ok (.getfield 36, 3) := by decide +kernel
theorem dX4_peak_50 : decode cX4_peak 50 = .ok (.iload 4, 2) := by decide +kernel
theorem dX4_peak_52 : decode cX4_peak 52 = .ok (.iaload, 1) := by decide +kernel
theorem dX4_peak_53 : decode cX4_peak 53 = .ok (.goto 4, 3) := by decide +kernel
theorem dX4_peak_56 : decode cX4_peak 56 = .ok (.iconst (-1), 1) := by decide +kernel
theorem dX4_peak_57 : decode cX4_peak 57 = .ok (.ireturn, 1) := by decide +kernel
theorem dX4_line_0 : decode cX4_line 0 = .ok (.iload_n 1, 1) := by decide +kernel
theorem dX4_line_1 : decode cX4_line 1 = .ok (.iconst 1, 1) := by decide +kernel
theorem dX4_line_2 : decode cX4_line 2 = .ok (.ldc 171, 2) := by decide +kernel
theorem dX4_line_4 : decode cX4_line 4 = .ok (.invokestatic 106, 3) := by decide +kernel
theorem dX4_line_7 : decode cX4_line 7 = .ok (.ifCond .eq 25, 3) := by decide +kernel
theorem dX4_line_10 : decode cX4_line 10 = .ok (.aload_n 0, 1) := by decide +kernel
theorem dX4_line_11 : decode cX4_line 11 = .ok (.getfield 172, 3) := by decide +kernel
theorem dX4_line_14 : decode cX4_line 14 = .ok (.ifCond .le 21, 3) := by decide +kernel
theorem dX4_line_17 : decode cX4_line 17 = .ok (.iload_n 1, 1) := by decide +kernel
theorem dX4_line_18 : decode cX4_line 18 = .ok (.aload_n 0, 1) := by decide +kernel
theorem dX4_line_19 : decode cX4_line 19 = .ok (.getfield 25, 3) := by decide +kernel
theorem dX4_line_22 : decode cX4_line 22 = .ok (.aload_n 0, 1) := by decide +kernel
theorem dX4_line_23 : decode cX4_line 23 = .ok (.getfield 172, 3) := by decide +kernel
theorem dX4_line_26 : decode cX4_line 26 = .ok (.iconst 1, 1) := by decide +kernel
theorem dX4_line_27 : decode cX4_line 27 = .ok (.isub, 1) := by decide +kernel
theorem dX4_line_28 : decode cX4_line 28 = .ok (.iaload, 1) := by decide +kernel
theorem dX4_line_29 : decode cX4_line 29 = .ok (.if_icmp .gt 6, 3) := by decide +kernel
theorem dX4_line_32 : decode cX4_line 32 = .ok (.bipush (-102), 2) := by decide +kernel
theorem dX4_line_34 : decode cX4_line 34 = .ok (.ireturn, 1) := by decide +kernel
theorem dX4_line_35 : decode cX4_line 35 = .ok (.aload_n 0, 1) := by decide +kernel
theorem dX4_line_36 : decode cX4_line 36 = .ok (.getfield 172, 3) := by decide +kernel
theorem dX4_line_39 : decode cX4_line 39 = .ok (.bipush 12, 2) := by decide +kernel
theorem dX4_line_41 : decode cX4_line 41 = .ok (.if_icmp .lt 6, 3) := by decide +kernel
theorem dX4_line_44 : decode cX4_line 44 = .ok (.bipush (-104), 2) := by decide +kernel
theorem dX4_line_46 : decode cX4_line 46 = .ok (.ireturn, 1) := by decide +kernel
theorem dX4_line_47 : decode cX4_line 47 = .ok (.aload_n 0, 1) := by decide +kernel
theorem dX4_line_48 : decode cX4_line 48 = .ok (.getfield 25, 3) := by decide +kernel
theorem dX4_line_51 : decode cX4_line 51 = .ok (.aload_n 0, 1) := by decide +kernel
theorem dX4_line_52 : decode cX4_line 52 = .ok (.getfield 172, 3) := by decide +kernel
theorem dX4_line_55 : decode cX4_line 55 = .ok (.iload_n 1, 1) := by decide +kernel
theorem dX4_line_56 : decode cX4_line 56 = .ok (.iastore, 1) := by decide +kernel
theorem dX4_line_57 : decode cX4_line 57 = .ok (.aload_n 0, 1) := by decide +kernel
theorem dX4_line_58 : decode cX4_line 58 = .ok (.dup, 1) := by decide +kernel
theorem dX4_line_59 : decode cX4_line 59 = .ok (.getfield 172, 3) := by decide +kernel
theorem dX4_line_62 : decode cX4_line 62 = .ok (.iconst 1, 1) := by decide +kernel
theorem dX4_line_63 : decode cX4_line 63 = .ok (.iadd, 1) := by decide +kernel
theorem dX4_line_64 : decode cX4_line 64 = .ok (.putfield 172, 3) := by decide +kernel
theorem dX4_line_67 : decode cX4_line 67 = .ok (.aload_n 0, 1) := by decide +kernel
theorem dX4_line_68 : decode cX4_line 68 = .ok (.getfield 172, 3) := by decide +kernel
theorem dX4_line_71 : decode cX4_line 71 = .ok (.ireturn, 1) := by decide +kernel
theorem dX4_clear_0 : decode cX4_clear 0 = .ok (.aload_n 0, 1) := by decide +kernel
theorem dX4_clear_1 : decode cX4_clear 1 = .ok (.getfield 172, 3) := by decide +kernel
theorem dX4_clear_4 : decode cX4_clear 4 = .ok (.istore_n 1, 1) := by decide +kernel
theorem dX4_clear_5 : decode cX4_clear 5 = .ok (.aload_n 0, 1) := by decide +kernel
theorem dX4_clear_6 : decode cX4_clear 6 = .ok (.iconst 0, 1) := by decide +kernel
theorem dX4_clear_7 : decode cX4_clear 7 = .ok (.putfield 172, 3) := by decide +kernel
theorem dX4_clear_10 : decode cX4_clear 10 = .ok (.iload_n 1, 1) := by decide +kernel
theorem dX4_clear_11 : decode cX4_clear 11 = .ok (.ireturn, 1) := by decide +kernel
theorem dX4_match_0 : decode cX4_match 0 = .ok (.aload_n 0, 1) := by decide +kernel
theorem dX4_match_1 : decode cX4_match 1 = .ok (.iload_n 1, 1) := by decide +kernel
theorem dX4_match_2 : decode cX4_match 2 = .ok (.invokevirtual 122, 3) := by decide +kernel
theorem dX4_match_5 : decode cX4_match 5 = .ok (.astore 5, 2) := by decide +kernel
theorem dX4_match_7 : decode cX4_match 7 = .ok (.aload 5, 2) := by decide +kernel
theorem dX4_match_9 : decode cX4_match 9 = .ok (.ifnonnull 6, 3) := by decide +kernel
theorem dX4_match_12 : decode cX4_match 12 = .ok (.bipush (-101), 2) := by decide +kernel
theorem dX4_match_14 : decode cX4_match 14 = .ok (.ireturn, 1) := by decide +kernel
theorem dX4_match_15 : decode cX4_match 15 = .ok (.lload_n 2, 1) := by decide +kernel
theorem dX4_match_16 : decode cX4_match 16 = .ok (.lconst 1, 1) := by decide +kernel
theorem dX4_match_17 : decode cX4_match 17 = .ok (.lcmp, 1) := by decide +kernel
theorem dX4_match_18 : decode cX4_match 18 = .ok (.ifCond .lt 15, 3) := by decide +kernel
theorem dX4_match_21 : decode cX4_match 21 = .ok (.iload 4, 2) := by decide +kernel
theorem dX4_match_23 : decode cX4_match 23 = .ok (.iconst 0, 1) := by decide +kernel
theorem dX4_match_24 : decode cX4_match 24 = .ok (.sipush 10000, 3) := by decide +kernel
theorem dX4_match_27 : decode cX4_match 27 = .ok (.invokestatic 106, 3) := by decide +kernel
theorem dX4_match_30 : decode cX4_match 30 = .ok (.ifCond .ne 6, 3) := by decide +kernel
theorem dX4_match_33 : decode cX4_match 33 = .ok (.bipush (-102), 2) := by decide +kernel
theorem dX4_match_35 : decode cX4_match 35 = .ok (.ireturn, 1) := by decide +kernel
theorem dX4_match_36 : decode cX4_match 36 = .ok (.aload_n 0, 1) := by decide +kernel
theorem dX4_match_37 : decode cX4_match 37 = .ok (.aload 5, 2) := by decide +kernel
theorem dX4_match_39 : decode cX4_match 39 = .ok (.lload_n 2, 1) := by decide +kernel
theorem dX4_match_40 : decode cX4_match 40 = .ok (.invokevirtual 167, 3) := by decide +kernel
theorem dX4_match_43 : decode cX4_match 43 = .ok (.istore 6, 2) := by decide +kernel
theorem dX4_match_45 : decode cX4_match 45 = .ok (.iload 6, 2) := by decide +kernel
theorem dX4_match_47 : decode cX4_match 47 = .ok (.bipush 9, 2) := by decide +kernel
theorem dX4_match_49 : decode cX4_match 49 = .ok (.if_icmp .gt 13, 3) := by decide +kernel
theorem dX4_match_52 : decode cX4_match 52 = .ok (.aload_n 0, 1) := by decide +kernel
theorem dX4_match_53 : decode cX4_match 53 = .ok (.getfield 175, 3) := by decide +kernel
theorem dX4_match_56 : decode cX4_match 56 = .ok (.sipush 200, 3) := by decide +kernel
theorem dX4_match_59 : decode cX4_match 59 = .ok (.if_icmp .lt 6, 3) := by decide +kernel
theorem dX4_match_62 : decode cX4_match 62 = .ok (.bipush (-104), 2) := by decide +kernel
theorem dX4_match_64 : decode cX4_match 64 = .ok (.ireturn, 1) := by decide +kernel
theorem dX4_match_65 : decode cX4_match 65 = .ok (.aload_n 0, 1) := by decide +kernel
theorem dX4_match_66 : decode cX4_match 66 = .ok (.dup, 1) := by decide +kernel
theorem dX4_match_67 : decode cX4_match 67 = .ok (.getfield 175, 3) := by decide +kernel
theorem dX4_match_70 : decode cX4_match 70 = .ok (.iconst 1, 1) := by decide +kernel
theorem dX4_match_71 : decode cX4_match 71 = .ok (.iadd, 1) := by decide +kernel
theorem dX4_match_72 : decode cX4_match 72 = .ok (.putfield 175, 3) := by decide +kernel
theorem dX4_match_75 : decode cX4_match 75 = .ok (.aload_n 0, 1) := by decide +kernel
theorem dX4_match_76 : decode cX4_match 76 = .ok (.getfield 49, 3) := by decide +kernel
theorem dX4_match_79 : decode cX4_match 79 = .ok (.invokevirtual 154, 3) := by decide +kernel
theorem dX4_match_82 : decode cX4_match 82 = .ok (.iconst 0, 1) := by decide +kernel
theorem dX4_match_83 : decode cX4_match 83 = .ok (.istore 7, 2) := by decide +kernel
theorem dX4_match_85 : decode cX4_match 85 = .ok (.iload 7, 2) := by decide +kernel
theorem dX4_match_87 : decode cX4_match 87 = .ok (.iload 6, 2) := by decide +kernel
theorem dX4_match_89 : decode cX4_match 89 = .ok (.if_icmp .ge 40, 3) := by decide +kernel
theorem dX4_match_92 : decode cX4_match 92 = .ok (.iload 7, 2) := by decide +kernel
theorem dX4_match_94 : decode cX4_match 94 = .ok (.iconst 1, 1) := by decide +kernel
theorem dX4_match_95 : decode cX4_match 95 = .ok (.iadd, 1) := by decide +kernel
theorem dX4_match_96 : decode cX4_match 96 = .ok (.istore 8, 2) := by decide +kernel
theorem dX4_match_98 : decode cX4_match 98 = .ok (.iload 8, 2) := by decide +kernel
theorem dX4_match_100 : decode cX4_match 100 = .ok (.iload 6, 2) := by decide +kernel
theorem dX4_match_102 : decode cX4_match 102 = .ok (.if_icmp .ge 21, 3) := by decide +kernel
theorem dX4_match_105 : decode cX4_match 105 = .ok (.aload_n 0, 1) := by decide +kernel
theorem dX4_match_106 : decode cX4_match 106 = .ok (.iload 7, 2) := by decide +kernel
theorem dX4_match_108 : decode cX4_match 108 = .ok (.iload 8, 2) := by decide +kernel
theorem dX4_match_110 : decode cX4_match 110 = .ok (.iload 6, 2) := by decide +kernel
theorem dX4_match_112 : decode cX4_match 112 = .ok (.iload 4, 2) := by decide +kernel
theorem dX4_match_114 : decode cX4_match 114 = .ok (.invokevirtual 178, 3) := by decide +kernel
theorem dX4_match_117 : decode cX4_match 117 = .ok (.iinc 8 1, 3) := by decide +kernel
theorem dX4_match_120 : decode cX4_match 120 = .ok (.goto (-22), 3) := by decide +kernel
theorem dX4_match_123 : decode cX4_match 123 = .ok (.iinc 7 1, 3) := by decide +kernel
theorem dX4_match_126 : decode cX4_match 126 = .ok (.goto (-41), 3) := by decide +kernel
theorem dX4_match_129 : decode cX4_match 129 = .ok (.aload_n 0, 1) := by decide +kernel
theorem dX4_match_130 : decode cX4_match 130 = .ok (.getfield 49, 3) := by decide +kernel
theorem dX4_match_133 : decode cX4_match 133 = .ok (.getfield 182, 3) := by decide +kernel
theorem dX4_match_136 : decode cX4_match 136 = .ok (.ifCond .ne 5, 3) := by decide +kernel
theorem dX4_match_139 : decode cX4_match 139 = .ok (.iconst 0, 1) := by decide +kernel
theorem dX4_match_140 : decode cX4_match 140 = .ok (.ireturn, 1) := by decide +kernel
theorem dX4_match_141 : decode cX4_match 141 = .ok (.aload 5, 2) := by decide +kernel
theorem dX4_match_143 : decode cX4_match 143 = .ok (.getfield 151, 3) := by decide +kernel
theorem dX4_match_146 : decode cX4_match 146 = .ok (.aload_n 0, 1) := by decide +kernel
theorem dX4_match_147 : decode cX4_match 147 = .ok (.getfield 49, 3) := by decide +kernel
theorem dX4_match_150 : decode cX4_match 150 = .ok (.getfield 185, 3) := by decide +kernel
theorem dX4_match_153 : decode cX4_match 153 = .ok (.aload_n 0, 1) := by decide +kernel
theorem dX4_match_154 : decode cX4_match 154 = .ok (.getfield 49, 3) := by decide +kernel
theorem dX4_match_157 : decode cX4_match 157 = .ok (.getfield 186, 3) := by decide +kernel
theorem dX4_match_160 : decode cX4_match 160 = .ok (.aload_n 0, 1) := by decide +kernel
theorem dX4_match_161 : decode cX4_match 161 = .ok (.getfield 49, 3) := by decide +kernel
theorem dX4_match_164 : decode cX4_match 164 = .ok (.getfield 187, 3) := by decide +kernel
theorem dX4_match_167 : decode cX4_match 167 = .ok (.invokevirtual 190, 3) := by decide +kernel
theorem dX4_match_170 : decode cX4_match 170 = .ok (.aload_n 0, 1) := by decide +kernel
theorem dX4_match_171 : decode cX4_match 171 = .ok (.getfield 49, 3) := by decide +kernel
theorem dX4_match_174 : decode cX4_match 174 = .ok (.getfield 187, 3) := by decide +kernel
theorem dX4_match_177 : decode cX4_match 177 = .ok (.ireturn, 1) := by decide +kernel
theorem dX4_law_0 : decode cX4_law 0 = .ok (.aload_n 0, 1) := by decide +kernel
theorem dX4_law_1 : decode cX4_law 1 = .ok (.iload_n 1, 1) := by decide +kernel
theorem dX4_law_2 : decode cX4_law 2 = .ok (.invokevirtual 122, 3) := by decide +kernel
theorem dX4_law_5 : decode cX4_law 5 = .ok (.astore 4, 2) := by decide +kernel
theorem dX4_law_7 : decode cX4_law 7 = .ok (.aload 4, 2) := by decide +kernel
theorem dX4_law_9 : decode cX4_law 9 = .ok (.ifnonnull 6, 3) := by decide +kernel
theorem dX4_law_12 : decode cX4_law 12 = .ok (.bipush (-101), 2) := by decide +kernel
theorem dX4_law_14 : decode cX4_law 14 = .ok (.ireturn, 1) := by decide +kernel
theorem dX4_law_15 : decode cX4_law 15 = .ok (.iload_n 2, 1) := by decide +kernel
theorem dX4_law_16 : decode cX4_law 16 = .ok (.ldc 193, 2) := by decide +kernel
theorem dX4_law_18 : decode cX4_law 18 = .ok (.ldc 171, 2) := by decide +kernel
theorem dX4_law_20 : decode cX4_law 20 = .ok (.invokestatic 106, 3) := by decide +kernel
theorem dX4_law_23 : decode cX4_law 23 = .ok (.ifCond .eq 13, 3) := by decide +kernel
theorem dX4_law_26 : decode cX4_law 26 = .ok (.iload_n 3, 1) := by decide +kernel
theorem dX4_law_27 : decode cX4_law 27 = .ok (.iconst 1, 1) := by decide +kernel
theorem dX4_law_28 : decode cX4_law 28 = .ok (.ldc 194, 2) := by decide +kernel
theorem dX4_law_30 : decode cX4_law 30 = .ok (.invokestatic 106, 3) := by decide +kernel
theorem dX4_law_33 : decode cX4_law 33 = .ok (.ifCond .ne 6, 3) := by decide +kernel
theorem dX4_law_36 : decode cX4_law 36 = .ok (.bipush (-102), 2) := by decide +kernel
theorem dX4_law_38 : decode cX4_law 38 = .ok (.ireturn, 1) := by decide +kernel
theorem dX4_law_39 : decode cX4_law 39 = .ok (.aload 4, 2) := by decide +kernel
theorem dX4_law_41 : decode cX4_law 41 = .ok (.getfield 141, 3) := by decide +kernel
theorem dX4_law_44 : decode cX4_law 44 = .ok (.ifCond .ne 6, 3) := by decide +kernel
theorem dX4_law_47 : decode cX4_law 47 = .ok (.bipush (-103), 2) := by decide +kernel
theorem dX4_law_49 : decode cX4_law 49 = .ok (.ireturn, 1) := by decide +kernel
theorem dX4_law_50 : decode cX4_law 50 = .ok (.aload 4, 2) := by decide +kernel
theorem dX4_law_52 : decode cX4_law 52 = .ok (.getfield 151, 3) := by decide +kernel
theorem dX4_law_55 : decode cX4_law 55 = .ok (.iload_n 2, 1) := by decide +kernel
theorem dX4_law_56 : decode cX4_law 56 = .ok (.iload_n 3, 1) := by decide +kernel
theorem dX4_law_57 : decode cX4_law 57 = .ok (.iconst 0, 1) := by decide +kernel
theorem dX4_law_58 : decode cX4_law 58 = .ok (.invokevirtual 190, 3) := by decide +kernel
theorem dX4_law_61 : decode cX4_law 61 = .ok (.iconst 1, 1) := by decide +kernel
theorem dX4_law_62 : decode cX4_law 62 = .ok (.ireturn, 1) := by decide +kernel
theorem dX4_wave_0 : decode cX4_wave 0 = .ok (.aload_n 0, 1) := by decide +kernel
theorem dX4_wave_1 : decode cX4_wave 1 = .ok (.iload_n 1, 1) := by decide +kernel
theorem dX4_wave_2 : decode cX4_wave 2 = .ok (.invokevirtual 122, 3) := by decide +kernel
theorem dX4_wave_5 : decode cX4_wave 5 = .ok (.astore_n 3, 1) := by decide +kernel
theorem dX4_wave_6 : decode cX4_wave 6 = .ok (.aload_n 3, 1) := by decide +kernel
theorem dX4_wave_7 : decode cX4_wave 7 = .ok (.ifnonnull 6, 3) := by decide +kernel
theorem dX4_wave_10 : decode cX4_wave 10 = .ok (.ldc 195, 2) := by decide +kernel
theorem dX4_wave_12 : decode cX4_wave 12 = .ok (.ireturn, 1) := by decide +kernel
theorem dX4_wave_13 : decode cX4_wave 13 = .ok (.iload_n 2, 1) := by decide +kernel
theorem dX4_wave_14 : decode cX4_wave 14 = .ok (.iconst 0, 1) := by decide +kernel
theorem dX4_wave_15 : decode cX4_wave 15 = .ok (.sipush 2000, 3) := by decide +kernel
theorem dX4_wave_18 : decode cX4_wave 18 = .ok (.invokestatic 106, 3) := by decide +kernel
theorem dX4_wave_21 : decode cX4_wave 21 = .ok (.ifCond .ne 6, 3) := by decide +kernel
theorem dX4_wave_24 : decode cX4_wave 24 = .ok (.ldc 196, 2) := by decide +kernel
theorem dX4_wave_26 : decode cX4_wave 26 = .ok (.ireturn, 1) := by decide +kernel
theorem dX4_wave_27 : decode cX4_wave 27 = .ok (.aload_n 3, 1) := by decide +kernel
theorem dX4_wave_28 : decode cX4_wave 28 = .ok (.getfield 151, 3) := by decide +kernel
theorem dX4_wave_31 : decode cX4_wave 31 = .ok (.getfield 182, 3) := by decide +kernel
theorem dX4_wave_34 : decode cX4_wave 34 = .ok (.ifCond .ne 6, 3) := by decide +kernel
theorem dX4_wave_37 : decode cX4_wave 37 = .ok (.ldc 197, 2) := by decide +kernel
theorem dX4_wave_39 : decode cX4_wave 39 = .ok (.ireturn, 1) := by decide +kernel
theorem dX4_wave_40 : decode cX4_wave 40 = .ok (.aload_n 3, 1) := by decide +kernel
theorem dX4_wave_41 : decode cX4_wave 41 = .ok (.getfield 151, 3) := by decide +kernel
theorem dX4_wave_44 : decode cX4_wave 44 = .ok (.getfield 185, 3) := by decide +kernel
theorem dX4_wave_47 : decode cX4_wave 47 = .ok (.i2l, 1) := by decide +kernel
theorem dX4_wave_48 : decode cX4_wave 48 = .ok (.aload_n 3, 1) := by decide +kernel
theorem dX4_wave_49 : decode cX4_wave 49 = .ok (.getfield 151, 3) := by decide +kernel
theorem dX4_wave_52 : decode cX4_wave 52 = .ok (.getfield 186, 3) := by decide +kernel
theorem dX4_wave_55 : decode cX4_wave 55 = .ok (.i2l, 1) := by decide +kernel
theorem dX4_wave_56 : decode cX4_wave 56 = .ok (.iload_n 2, 1) := by decide +kernel
theorem dX4_wave_57 : decode cX4_wave 57 = .ok (.invokestatic 198, 3) := by decide +kernel
theorem dX4_wave_60 : decode cX4_wave 60 = .ok (.l2i, 1) := by decide +kernel
theorem dX4_wave_61 : decode cX4_wave 61 = .ok (.ireturn, 1) := by decide +kernel
theorem dX4_join_0 : decode cX4_join 0 = .ok (.iload_n 1, 1) := by decide +kernel
theorem dX4_join_1 : decode cX4_join 1 = .ok (.ldc 193, 2) := by decide +kernel
theorem dX4_join_3 : decode cX4_join 3 = .ok (.ldc 171, 2) := by decide +kernel
theorem dX4_join_5 : decode cX4_join 5 = .ok (.invokestatic 106, 3) := by decide +kernel
theorem dX4_join_8 : decode cX4_join 8 = .ok (.ifCond .eq 23, 3) := by decide +kernel
theorem dX4_join_11 : decode cX4_join 11 = .ok (.iload_n 2, 1) := by decide +kernel
theorem dX4_join_12 : decode cX4_join 12 = .ok (.iconst 1, 1) := by decide +kernel
theorem dX4_join_13 : decode cX4_join 13 = .ok (.ldc 194, 2) := by decide +kernel
theorem dX4_join_15 : decode cX4_join 15 = .ok (.invokestatic 106, 3) := by decide +kernel
theorem dX4_join_18 : decode cX4_join 18 = .ok (.ifCond .eq 13, 3) := by decide +kernel
theorem dX4_join_21 : decode cX4_join 21 = .ok (.iload_n 3, 1) := by decide +kernel
theorem dX4_join_22 : decode cX4_join 22 = .ok (.iconst 1, 1) := by decide +kernel
theorem dX4_join_23 : decode cX4_join 23 = .ok (.bipush 60, 2) := by decide +kernel
theorem dX4_join_25 : decode cX4_join 25 = .ok (.invokestatic 106, 3) := by decide +kernel
theorem dX4_join_28 : decode cX4_join 28 = .ok (.ifCond .ne 6, 3) := by decide +kernel
theorem dX4_join_31 : decode cX4_join 31 = .ok (.bipush (-102), 2) := by decide +kernel
theorem dX4_join_33 : decode cX4_join 33 = .ok (.ireturn, 1) := by decide +kernel
theorem dX4_join_34 : decode cX4_join 34 = .ok (.aload_n 0, 1) := by decide +kernel
theorem dX4_join_35 : decode cX4_join 35 = .ok (.invokevirtual 202, 3) := by decide +kernel
theorem dX4_join_38 : decode cX4_join 38 = .ok (.ifCond .ne 6, 3) := by decide +kernel
theorem dX4_join_41 : decode cX4_join 41 = .ok (.bipush (-103), 2) := by decide +kernel
theorem dX4_join_43 : decode cX4_join 43 = .ok (.ireturn, 1) := by decide +kernel
theorem dX4_join_44 : decode cX4_join 44 = .ok (.iconst 0, 1) := by decide +kernel
theorem dX4_join_45 : decode cX4_join 45 = .ok (.istore 4, 2) := by decide +kernel
theorem dX4_join_47 : decode cX4_join 47 = .ok (.iconst 0, 1) := by decide +kernel
theorem dX4_join_48 : decode cX4_join 48 = .ok (.istore 5, 2) := by decide +kernel
theorem dX4_join_50 : decode cX4_join 50 = .ok (.iload 5, 2) := by decide +kernel
theorem dX4_join_52 : decode cX4_join 52 = .ok (.iload_n 3, 1) := by decide +kernel
theorem dX4_join_53 : decode cX4_join 53 = .ok (.if_icmp .ge 30, 3) := by decide +kernel
theorem dX4_join_56 : decode cX4_join 56 = .ok (.aload_n 0, 1) := by decide +kernel
theorem dX4_join_57 : decode cX4_join 57 = .ok (.iload 5, 2) := by decide +kernel
theorem dX4_join_59 : decode cX4_join 59 = .ok (.iload_n 1, 1) := by decide +kernel
theorem dX4_join_60 : decode cX4_join 60 = .ok (.i2l, 1) := by decide +kernel
theorem dX4_join_61 : decode cX4_join 61 = .ok (.iload_n 2, 1) := by decide +kernel
theorem dX4_join_62 : decode cX4_join 62 = .ok (.i2l, 1) := by decide +kernel
theorem dX4_join_63 : decode cX4_join 63 = .ok (.iload 5, 2) := by decide +kernel
theorem dX4_join_65 : decode cX4_join 65 = .ok (.i2l, 1) := by decide +kernel
theorem dX4_join_66 : decode cX4_join 66 = .ok (.lmul, 1) := by decide +kernel
theorem dX4_join_67 : decode cX4_join 67 = .ok (.ladd, 1) := by decide +kernel
theorem dX4_join_68 : decode cX4_join 68 = .ok (.invokevirtual 206, 3) := by decide +kernel
theorem dX4_join_71 : decode cX4_join 71 = .ok (.ifCond .eq 6, 3) := by decide +kernel
theorem dX4_join_74 : decode cX4_join 74 = .ok (.iinc 4 1, 3) := by decide +kernel
theorem dX4_join_77 : decode cX4_join 77 = .ok (.iinc 5 1, 3) := by decide +kernel
theorem dX4_join_80 : decode cX4_join 80 = .ok (.goto (-30), 3) := by decide +kernel
theorem dX4_join_83 : decode cX4_join 83 = .ok (.aload_n 0, 1) := by decide +kernel
theorem dX4_join_84 : decode cX4_join 84 = .ok (.iload_n 3, 1) := by decide +kernel
theorem dX4_join_85 : decode cX4_join 85 = .ok (.putfield 210, 3) := by decide +kernel
theorem dX4_join_88 : decode cX4_join 88 = .ok (.iload 4, 2) := by decide +kernel
theorem dX4_join_90 : decode cX4_join 90 = .ok (.ireturn, 1) := by decide +kernel
theorem dX4_joined_0 : decode cX4_joined 0 = .ok (.iload_n 1, 1) := by decide +kernel
theorem dX4_joined_1 : decode cX4_joined 1 = .ok (.iconst 0, 1) := by decide +kernel
theorem dX4_joined_2 : decode cX4_joined 2 = .ok (.aload_n 0, 1) := by decide +kernel
theorem dX4_joined_3 : decode cX4_joined 3 = .ok (.getfield 210, 3) := by decide +kernel
theorem dX4_joined_6 : decode cX4_joined 6 = .ok (.iconst 1, 1) := by decide +kernel
theorem dX4_joined_7 : decode cX4_joined 7 = .ok (.isub, 1) := by decide +kernel
theorem dX4_joined_8 : decode cX4_joined 8 = .ok (.invokestatic 106, 3) := by decide +kernel
theorem dX4_joined_11 : decode cX4_joined 11 = .ok (.ifCond .eq 12, 3) := by decide +kernel
theorem dX4_joined_14 : decode cX4_joined 14 = .ok (.aload_n 0, 1) := by decide +kernel
theorem dX4_joined_15 : decode cX4_joined 15 = .ok (.getfield 29, 3) := by decide +kernel
theorem dX4_joined_18 : decode cX4_joined 18 = .ok (.iload_n 1, 1) := by decide +kernel
theorem dX4_joined_19 : decode cX4_joined 19 = .ok (.laload, 1) := by decide +kernel
theorem dX4_joined_20 : decode cX4_joined 20 = .ok (.goto 6, 3) := by decide +kernel
theorem dX4_joined_23 : decode cX4_joined 23 = .ok (.ldc2_w 165, 3) := by decide +kernel
theorem dX4_joined_26 : decode cX4_joined 26 = .ok (.lreturn, 1) := by decide +kernel
theorem dX4_shift_0 : decode cX4_shift 0 = .ok (.aload_n 0, 1) := by decide +kernel
theorem dX4_shift_1 : decode cX4_shift 1 = .ok (.iload_n 1, 1) := by decide +kernel
theorem dX4_shift_2 : decode cX4_shift 2 = .ok (.invokevirtual 122, 3) := by decide +kernel
theorem dX4_shift_5 : decode cX4_shift 5 = .ok (.astore 4, 2) := by decide +kernel
theorem dX4_shift_7 : decode cX4_shift 7 = .ok (.aload_n 0, 1) := by decide +kernel
theorem dX4_shift_8 : decode cX4_shift 8 = .ok (.iload_n 2, 1) := by decide +kernel
theorem dX4_shift_9 : decode cX4_shift 9 = .ok (.invokevirtual 122, 3) := by decide +kernel
theorem dX4_shift_12 : decode cX4_shift 12 = .ok (.astore 5, 2) := by decide +kernel
theorem dX4_shift_14 : decode cX4_shift 14 = .ok (.aload 4, 2) := by decide +kernel
theorem dX4_shift_16 : decode cX4_shift 16 = .ok (.ifnull 8, 3) := by decide +kernel
theorem dX4_shift_19 : decode cX4_shift 19 = .ok (.aload 5, 2) := by decide +kernel
theorem dX4_shift_21 : decode cX4_shift 21 = .ok (.ifnonnull 7, 3) := by decide +kernel
theorem dX4_shift_24 : decode cX4_shift 24 = .ok (.ldc2_w 157, 3) := by decide +kernel
theorem dX4_shift_27 : decode cX4_shift 27 = .ok (.lreturn, 1) := by decide +kernel
theorem dX4_shift_28 : decode cX4_shift 28 = .ok (.iload_n 3, 1) := by decide +kernel
theorem dX4_shift_29 : decode cX4_shift 29 = .ok (.bipush (-19), 2) := by decide +kernel
theorem dX4_shift_31 : decode cX4_shift 31 = .ok (.bipush 19, 2) := by decide +kernel
theorem dX4_shift_33 : decode cX4_shift 33 = .ok (.invokestatic 106, 3) := by decide +kernel
theorem dX4_shift_36 : decode cX4_shift 36 = .ok (.ifCond .ne 7, 3) := by decide +kernel
theorem dX4_shift_39 : decode cX4_shift 39 = .ok (.ldc2_w 213, 3) := by decide +kernel
theorem dX4_shift_42 : decode cX4_shift 42 = .ok (.lreturn, 1) := by decide +kernel
theorem dX4_shift_43 : decode cX4_shift 43 = .ok (.aload 4, 2) := by decide +kernel
theorem dX4_shift_45 : decode cX4_shift 45 = .ok (.aload 5, 2) := by decide +kernel
theorem dX4_shift_47 : decode cX4_shift 47 = .ok (.iload_n 3, 1) := by decide +kernel
theorem dX4_shift_48 : decode cX4_shift 48 = .ok (.invokestatic 215, 3) := by decide +kernel
theorem dX4_shift_51 : decode cX4_shift 51 = .ok (.lreturn, 1) := by decide +kernel
theorem dX4_best_0 : decode cX4_best 0 = .ok (.aload_n 0, 1) := by decide +kernel
theorem dX4_best_1 : decode cX4_best 1 = .ok (.iload_n 1, 1) := by decide +kernel
theorem dX4_best_2 : decode cX4_best 2 = .ok (.invokevirtual 122, 3) := by decide +kernel
theorem dX4_best_5 : decode cX4_best 5 = .ok (.astore_n 3, 1) := by decide +kernel
theorem dX4_best_6 : decode cX4_best 6 = .ok (.aload_n 0, 1) := by decide +kernel
theorem dX4_best_7 : decode cX4_best 7 = .ok (.iload_n 2, 1) := by decide +kernel
theorem dX4_best_8 : decode cX4_best 8 = .ok (.invokevirtual 122, 3) := by decide +kernel
theorem dX4_best_11 : decode cX4_best 11 = .ok (.astore 4, 2) := by decide +kernel
theorem dX4_best_13 : decode cX4_best 13 = .ok (.aload_n 3, 1) := by decide +kernel
theorem dX4_best_14 : decode cX4_best 14 = .ok (.ifnull 8, 3) := by decide +kernel
theorem dX4_best_17 : decode cX4_best 17 = .ok (.aload 4, 2) := by decide +kernel
theorem dX4_best_19 : decode cX4_best 19 = .ok (.ifnonnull 6, 3) := by decide +kernel
theorem dX4_best_22 : decode cX4_best 22 = .ok (.bipush (-100), 2) := by decide +kernel
theorem dX4_best_24 : decode cX4_best 24 = .ok (.ireturn, 1) := by decide +kernel
theorem dX4_best_25 : decode cX4_best 25 = .ok (.aload_n 3, 1) := by decide +kernel
theorem dX4_best_26 : decode cX4_best 26 = .ok (.getfield 141, 3) := by decide +kernel
theorem dX4_best_29 : decode cX4_best 29 = .ok (.ifCond .eq 11, 3) := by decide +kernel
theorem dX4_best_32 : decode cX4_best 32 = .ok (.aload 4, 2) := by decide +kernel
theorem dX4_best_34 : decode cX4_best 34 = .ok (.getfield 141, 3) := by decide +kernel
theorem dX4_best_37 : decode cX4_best 37 = .ok (.ifCond .ne 6, 3) := by decide +kernel
theorem dX4_best_40 : decode cX4_best 40 = .ok (.bipush (-101), 2) := by decide +kernel
theorem dX4_best_42 : decode cX4_best 42 = .ok (.ireturn, 1) := by decide +kernel
theorem dX4_best_43 : decode cX4_best 43 = .ok (.iconst 0, 1) := by decide +kernel
theorem dX4_best_44 : decode cX4_best 44 = .ok (.istore 5, 2) := by decide +kernel
theorem dX4_best_46 : decode cX4_best 46 = .ok (.aload_n 3, 1) := by decide +kernel
theorem dX4_best_47 : decode cX4_best 47 = .ok (.aload 4, 2) := by decide +kernel
theorem dX4_best_49 : decode cX4_best 49 = .ok (.iconst 0, 1) := by decide +kernel
theorem dX4_best_50 : decode cX4_best 50 = .ok (.invokestatic 215, 3) := by decide +kernel
theorem dX4_best_53 : decode cX4_best 53 = .ok (.lstore 6, 2) := by decide +kernel
theorem dX4_best_55 : decode cX4_best 55 = .ok (.iconst 1, 1) := by decide +kernel
theorem dX4_best_56 : decode cX4_best 56 = .ok (.istore 8, 2) := by decide +kernel
theorem dX4_best_58 : decode cX4_best 58 = .ok (.iload 8, 2) := by decide +kernel
theorem dX4_best_60 : decode cX4_best 60 = .ok (.bipush 8, 2) := by decide +kernel
theorem dX4_best_62 : decode cX4_best 62 = .ok (.if_icmp .gt 59, 3) := by decide +kernel
theorem dX4_best_65 : decode cX4_best 65 = .ok (.iload 8, 2) := by decide +kernel
theorem dX4_best_67 : decode cX4_best 67 = .ok (.ineg, 1) := by decide +kernel
theorem dX4_best_68 : decode cX4_best 68 = .ok (.istore 9, 2) := by decide +kernel
theorem dX4_best_70 : decode cX4_best 70 = .ok (.iload 9, 2) := by decide +kernel
theorem dX4_best_72 : decode cX4_best 72 = .ok (.iload 8, 2) := by decide +kernel
theorem dX4_best_74 : decode cX4_best 74 = .ok (.if_icmp .gt 41, 3) := by decide +kernel
theorem dX4_best_77 : decode cX4_best 77 = .ok (.aload_n 3, 1) := by decide +kernel
theorem dX4_best_78 : decode cX4_best 78 = .ok (.aload 4, 2) := by decide +kernel
theorem dX4_best_80 : decode cX4_best 80 = .ok (.iload 9, 2) := by decide +kernel
theorem dX4_best_82 : decode cX4_best 82 = .ok (.invokestatic 215, 3) := by decide +kernel
theorem dX4_best_85 : decode cX4_best 85 = .ok (.lstore 10, 2) := by decide +kernel
theorem dX4_best_87 : decode cX4_best 87 = .ok (.lload 10, 2) := by decide +kernel
theorem dX4_best_89 : decode cX4_best 89 = .ok (.lload 6, 2) := by decide +kernel
theorem dX4_best_91 : decode cX4_best 91 = .ok (.lcmp, 1) := by decide +kernel
theorem dX4_best_92 : decode cX4_best 92 = .ok (.ifCond .le 11, 3) := by decide +kernel
theorem dX4_best_95 : decode cX4_best 95 = .ok (.lload 10, 2) := by decide +kernel
theorem dX4_best_97 : decode cX4_best 97 = .ok (.lstore 6, 2) := by decide +kernel
theorem dX4_best_99 : decode cX4_best 99 = .ok (.iload 9, 2) := by decide +kernel
theorem dX4_best_101 : decode cX4_best 101 = .ok (.istore 5, 2) := by decide +kernel
theorem dX4_best_103 : decode cX4_best 103 = .ok (.iload 9, 2) := by decide +kernel
theorem dX4_best_105 : decode cX4_best 105 = .ok (.iconst 2, 1) := by decide +kernel
theorem dX4_best_106 : decode cX4_best 106 = .ok (.iload 8, 2) := by decide +kernel
theorem dX4_best_108 : decode cX4_best 108 = .ok (.imul, 1) := by decide +kernel
theorem dX4_best_109 : decode cX4_best 109 = .ok (.iadd, 1) := by decide +kernel
theorem dX4_best_110 : decode cX4_best 110 = .ok (.istore 9, 2) := by decide +kernel
theorem dX4_best_112 : decode cX4_best 112 = .ok (.goto (-42), 3) := by decide +kernel
theorem dX4_best_115 : decode cX4_best 115 = .ok (.iinc 8 1, 3) := by decide +kernel
theorem dX4_best_118 : decode cX4_best 118 = .ok (.goto (-60), 3) := by decide +kernel
theorem dX4_best_121 : decode cX4_best 121 = .ok (.iload 5, 2) := by decide +kernel
theorem dX4_best_123 : decode cX4_best 123 = .ok (.ireturn, 1) := by decide +kernel
theorem dX4_seen_0 : decode cX4_seen 0 = .ok (.aload_n 0, 1) := by decide +kernel
theorem dX4_seen_1 : decode cX4_seen 1 = .ok (.getfield 103, 3) := by decide +kernel
theorem dX4_seen_4 : decode cX4_seen 4 = .ok (.ireturn, 1) := by decide +kernel
theorem dX4_cause_0 : decode cX4_cause 0 = .ok (.aload_n 0, 1) := by decide +kernel
theorem dX4_cause_1 : decode cX4_cause 1 = .ok (.getfield 219, 3) := by decide +kernel
theorem dX4_cause_4 : decode cX4_cause 4 = .ok (.ireturn, 1) := by decide +kernel
theorem dX4_causes_0 : decode cX4_causes 0 = .ok (.iload_n 1, 1) := by decide +kernel
theorem dX4_causes_1 : decode cX4_causes 1 = .ok (.iconst 1, 1) := by decide +kernel
theorem dX4_causes_2 : decode cX4_causes 2 = .ok (.iconst 5, 1) := by decide +kernel
theorem dX4_causes_3 : decode cX4_causes 3 = .ok (.invokestatic 106, 3) := by decide +kernel
theorem dX4_causes_6 : decode cX4_causes 6 = .ok (.ifCond .eq 12, 3) := by decide +kernel
theorem dX4_causes_9 : decode cX4_causes 9 = .ok (.aload_n 0, 1) := by decide +kernel
theorem dX4_causes_10 : decode cX4_causes 10 = .ok (.getfield 33, 3) := by decide +kernel
theorem dX4_causes_13 : decode cX4_causes 13 = .ok (.iload_n 1, 1) := by decide +kernel
theorem dX4_causes_14 : decode cX4_causes 14 = .ok (.iaload, 1) := by decide +kernel
theorem dX4_causes_15 : decode cX4_causes 15 = .ok (.goto 5, 3) := by decide +kernel
theorem dX4_causes_18 : decode cX4_causes 18 = .ok (.bipush (-102), 2) := by decide +kernel
theorem dX4_causes_20 : decode cX4_causes 20 = .ok (.ireturn, 1) := by decide +kernel
theorem dX4_count_0 : decode cX4_count 0 = .ok (.iload_n 1, 1) := by decide +kernel
theorem dX4_count_1 : decode cX4_count 1 = .ok (.tableswitch 69 0 5 #[39, 44, 49, 54, 59, 64], 39) := by decide +kernel
theorem dX4_count_40 : decode cX4_count 40 = .ok (.aload_n 0, 1) := by decide +kernel
theorem dX4_count_41 : decode cX4_count 41 = .ok (.invokevirtual 222, 3) := by decide +kernel
theorem dX4_count_44 : decode cX4_count 44 = .ok (.ireturn, 1) := by decide +kernel
theorem dX4_count_45 : decode cX4_count 45 = .ok (.aload_n 0, 1) := by decide +kernel
theorem dX4_count_46 : decode cX4_count 46 = .ok (.getfield 110, 3) := by decide +kernel
theorem dX4_count_49 : decode cX4_count 49 = .ok (.ireturn, 1) := by decide +kernel
theorem dX4_count_50 : decode cX4_count 50 = .ok (.aload_n 0, 1) := by decide +kernel
theorem dX4_count_51 : decode cX4_count 51 = .ok (.getfield 172, 3) := by decide +kernel
theorem dX4_count_54 : decode cX4_count 54 = .ok (.ireturn, 1) := by decide +kernel
theorem dX4_count_55 : decode cX4_count 55 = .ok (.aload_n 0, 1) := by decide +kernel
theorem dX4_count_56 : decode cX4_count 56 = .ok (.invokevirtual 225, 3) := by decide +kernel
theorem dX4_count_59 : decode cX4_count 59 = .ok (.ireturn, 1) := by decide +kernel
theorem dX4_count_60 : decode cX4_count 60 = .ok (.aload_n 0, 1) := by decide +kernel
theorem dX4_count_61 : decode cX4_count 61 = .ok (.invokevirtual 202, 3) := by decide +kernel
theorem dX4_count_64 : decode cX4_count 64 = .ok (.ireturn, 1) := by decide +kernel
theorem dX4_count_65 : decode cX4_count 65 = .ok (.aload_n 0, 1) := by decide +kernel
theorem dX4_count_66 : decode cX4_count 66 = .ok (.getfield 175, 3) := by decide +kernel
theorem dX4_count_69 : decode cX4_count 69 = .ok (.ireturn, 1) := by decide +kernel
theorem dX4_count_70 : decode cX4_count 70 = .ok (.bipush (-102), 2) := by decide +kernel
theorem dX4_count_72 : decode cX4_count 72 = .ok (.ireturn, 1) := by decide +kernel
theorem dX4_digest_0 : decode cX4_digest 0 = .ok (.ldc2_w 228, 3) := by decide +kernel
theorem dX4_digest_3 : decode cX4_digest 3 = .ok (.lstore_n 1, 1) := by decide +kernel
theorem dX4_digest_4 : decode cX4_digest 4 = .ok (.iconst 0, 1) := by decide +kernel
theorem dX4_digest_5 : decode cX4_digest 5 = .ok (.istore_n 3, 1) := by decide +kernel
theorem dX4_digest_6 : decode cX4_digest 6 = .ok (.iload_n 3, 1) := by decide +kernel
theorem dX4_digest_7 : decode cX4_digest 7 = .ok (.bipush 6, 2) := by decide +kernel
theorem dX4_digest_9 : decode cX4_digest 9 = .ok (.if_icmp .ge 20, 3) := by decide +kernel
theorem dX4_digest_12 : decode cX4_digest 12 = .ok (.lload_n 1, 1) := by decide +kernel
theorem dX4_digest_13 : decode cX4_digest 13 = .ok (.aload_n 0, 1) := by decide +kernel
theorem dX4_digest_14 : decode cX4_digest 14 = .ok (.getfield 11, 3) := by decide +kernel
end
section
theorem dX4_digest_17 : decode cX4_digest 17 = .ok (.iload_n 3, 1) := by decide +kernel
theorem dX4_digest_18 : decode cX4_digest 18 = .ok (.aaload, 1) := by decide +kernel
theorem dX4_digest_19 : decode cX4_digest 19 = .ok (.invokestatic 230, 3) := by decide +kernel
theorem dX4_digest_22 : decode cX4_digest 22 = .ok (.lstore_n 1, 1) := by decide +kernel
theorem dX4_digest_23 : decode cX4_digest 23 = .ok (.iinc 3 1, 3) := by decide +kernel
theorem dX4_digest_26 : decode cX4_digest 26 = .ok (.goto (-20), 3) := by decide +kernel
theorem dX4_digest_29 : decode cX4_digest 29 = .ok (.iconst 0, 1) := by decide +kernel
theorem dX4_digest_30 : decode cX4_digest 30 = .ok (.istore_n 3, 1) := by decide +kernel
theorem dX4_digest_31 : decode cX4_digest 31 = .ok (.iload_n 3, 1) := by decide +kernel
theorem dX4_digest_32 : decode cX4_digest 32 = .ok (.aload_n 0, 1) := by decide +kernel
theorem dX4_digest_33 : decode cX4_digest 33 = .ok (.getfield 15, 3) := by decide +kernel
theorem dX4_digest_36 : decode cX4_digest 36 = .ok (.arraylength, 1) := by decide +kernel
theorem dX4_digest_37 : decode cX4_digest 37 = .ok (.if_icmp .ge 25, 3) := by decide +kernel
theorem dX4_digest_40 : decode cX4_digest 40 = .ok (.aload_n 0, 1) := by decide +kernel
theorem dX4_digest_41 : decode cX4_digest 41 = .ok (.getfield 15, 3) := by decide +kernel
theorem dX4_digest_44 : decode cX4_digest 44 = .ok (.iload_n 3, 1) := by decide +kernel
theorem dX4_digest_45 : decode cX4_digest 45 = .ok (.baload, 1) := by decide +kernel
theorem dX4_digest_46 : decode cX4_digest 46 = .ok (.ifCond .eq 10, 3) := by decide +kernel
theorem dX4_digest_49 : decode cX4_digest 49 = .ok (.lload_n 1, 1) := by decide +kernel
theorem dX4_digest_50 : decode cX4_digest 50 = .ok (.iload_n 3, 1) := by decide +kernel
theorem dX4_digest_51 : decode cX4_digest 51 = .ok (.i2l, 1) := by decide +kernel
theorem dX4_digest_52 : decode cX4_digest 52 = .ok (.invokestatic 234, 3) := by decide +kernel
theorem dX4_digest_55 : decode cX4_digest 55 = .ok (.lstore_n 1, 1) := by decide +kernel
theorem dX4_digest_56 : decode cX4_digest 56 = .ok (.iinc 3 1, 3) := by decide +kernel
theorem dX4_digest_59 : decode cX4_digest 59 = .ok (.goto (-28), 3) := by decide +kernel
theorem dX4_digest_62 : decode cX4_digest 62 = .ok (.iconst 0, 1) := by decide +kernel
theorem dX4_digest_63 : decode cX4_digest 63 = .ok (.istore_n 3, 1) := by decide +kernel
theorem dX4_digest_64 : decode cX4_digest 64 = .ok (.iload_n 3, 1) := by decide +kernel
theorem dX4_digest_65 : decode cX4_digest 65 = .ok (.aload_n 0, 1) := by decide +kernel
theorem dX4_digest_66 : decode cX4_digest 66 = .ok (.getfield 110, 3) := by decide +kernel
theorem dX4_digest_69 : decode cX4_digest 69 = .ok (.if_icmp .ge 20, 3) := by decide +kernel
theorem dX4_digest_72 : decode cX4_digest 72 = .ok (.lload_n 1, 1) := by decide +kernel
theorem dX4_digest_73 : decode cX4_digest 73 = .ok (.aload_n 0, 1) := by decide +kernel
theorem dX4_digest_74 : decode cX4_digest 74 = .ok (.getfield 21, 3) := by decide +kernel
theorem dX4_digest_77 : decode cX4_digest 77 = .ok (.iload_n 3, 1) := by decide +kernel
theorem dX4_digest_78 : decode cX4_digest 78 = .ok (.aaload, 1) := by decide +kernel
theorem dX4_digest_79 : decode cX4_digest 79 = .ok (.invokestatic 238, 3) := by decide +kernel
theorem dX4_digest_82 : decode cX4_digest 82 = .ok (.lstore_n 1, 1) := by decide +kernel
theorem dX4_digest_83 : decode cX4_digest 83 = .ok (.iinc 3 1, 3) := by decide +kernel
theorem dX4_digest_86 : decode cX4_digest 86 = .ok (.goto (-22), 3) := by decide +kernel
theorem dX4_digest_89 : decode cX4_digest 89 = .ok (.iconst 0, 1) := by decide +kernel
theorem dX4_digest_90 : decode cX4_digest 90 = .ok (.istore_n 3, 1) := by decide +kernel
theorem dX4_digest_91 : decode cX4_digest 91 = .ok (.iload_n 3, 1) := by decide +kernel
theorem dX4_digest_92 : decode cX4_digest 92 = .ok (.aload_n 0, 1) := by decide +kernel
theorem dX4_digest_93 : decode cX4_digest 93 = .ok (.getfield 172, 3) := by decide +kernel
theorem dX4_digest_96 : decode cX4_digest 96 = .ok (.if_icmp .ge 21, 3) := by decide +kernel
theorem dX4_digest_99 : decode cX4_digest 99 = .ok (.lload_n 1, 1) := by decide +kernel
theorem dX4_digest_100 : decode cX4_digest 100 = .ok (.aload_n 0, 1) := by decide +kernel
theorem dX4_digest_101 : decode cX4_digest 101 = .ok (.getfield 25, 3) := by decide +kernel
theorem dX4_digest_104 : decode cX4_digest 104 = .ok (.iload_n 3, 1) := by decide +kernel
theorem dX4_digest_105 : decode cX4_digest 105 = .ok (.iaload, 1) := by decide +kernel
theorem dX4_digest_106 : decode cX4_digest 106 = .ok (.i2l, 1) := by decide +kernel
theorem dX4_digest_107 : decode cX4_digest 107 = .ok (.invokestatic 234, 3) := by decide +kernel
theorem dX4_digest_110 : decode cX4_digest 110 = .ok (.lstore_n 1, 1) := by decide +kernel
theorem dX4_digest_111 : decode cX4_digest 111 = .ok (.iinc 3 1, 3) := by decide +kernel
theorem dX4_digest_114 : decode cX4_digest 114 = .ok (.goto (-23), 3) := by decide +kernel
theorem dX4_digest_117 : decode cX4_digest 117 = .ok (.lload_n 1, 1) := by decide +kernel
theorem dX4_digest_118 : decode cX4_digest 118 = .ok (.aload_n 0, 1) := by decide +kernel
theorem dX4_digest_119 : decode cX4_digest 119 = .ok (.getfield 103, 3) := by decide +kernel
theorem dX4_digest_122 : decode cX4_digest 122 = .ok (.i2l, 1) := by decide +kernel
theorem dX4_digest_123 : decode cX4_digest 123 = .ok (.invokestatic 234, 3) := by decide +kernel
theorem dX4_digest_126 : decode cX4_digest 126 = .ok (.lstore_n 1, 1) := by decide +kernel
theorem dX4_digest_127 : decode cX4_digest 127 = .ok (.lload_n 1, 1) := by decide +kernel
theorem dX4_digest_128 : decode cX4_digest 128 = .ok (.aload_n 0, 1) := by decide +kernel
theorem dX4_digest_129 : decode cX4_digest 129 = .ok (.getfield 175, 3) := by decide +kernel
theorem dX4_digest_132 : decode cX4_digest 132 = .ok (.i2l, 1) := by decide +kernel
theorem dX4_digest_133 : decode cX4_digest 133 = .ok (.invokestatic 234, 3) := by decide +kernel
theorem dX4_digest_136 : decode cX4_digest 136 = .ok (.lreturn, 1) := by decide +kernel
theorem dX4_within_0 : decode cX4_within 0 = .ok (.iload_n 0, 1) := by decide +kernel
theorem dX4_within_1 : decode cX4_within 1 = .ok (.iload_n 1, 1) := by decide +kernel
theorem dX4_within_2 : decode cX4_within 2 = .ok (.if_icmp .lt 12, 3) := by decide +kernel
theorem dX4_within_5 : decode cX4_within 5 = .ok (.iload_n 0, 1) := by decide +kernel
theorem dX4_within_6 : decode cX4_within 6 = .ok (.iload_n 2, 1) := by decide +kernel
theorem dX4_within_7 : decode cX4_within 7 = .ok (.if_icmp .gt 7, 3) := by decide +kernel
theorem dX4_within_10 : decode cX4_within 10 = .ok (.iconst 1, 1) := by decide +kernel
theorem dX4_within_11 : decode cX4_within 11 = .ok (.goto 4, 3) := by decide +kernel
theorem dX4_within_14 : decode cX4_within 14 = .ok (.iconst 0, 1) := by decide +kernel
theorem dX4_within_15 : decode cX4_within 15 = .ok (.ireturn, 1) := by decide +kernel
theorem dX4_isLane_0 : decode cX4_isLane 0 = .ok (.iload_n 0, 1) := by decide +kernel
theorem dX4_isLane_1 : decode cX4_isLane 1 = .ok (.iconst 0, 1) := by decide +kernel
theorem dX4_isLane_2 : decode cX4_isLane 2 = .ok (.iconst 2, 1) := by decide +kernel
theorem dX4_isLane_3 : decode cX4_isLane 3 = .ok (.invokestatic 106, 3) := by decide +kernel
theorem dX4_isLane_6 : decode cX4_isLane 6 = .ok (.ireturn, 1) := by decide +kernel
theorem dX4_isCell_0 : decode cX4_isCell 0 = .ok (.iload_n 0, 1) := by decide +kernel
theorem dX4_isCell_1 : decode cX4_isCell 1 = .ok (.iconst 0, 1) := by decide +kernel
theorem dX4_isCell_2 : decode cX4_isCell 2 = .ok (.bipush 19, 2) := by decide +kernel
theorem dX4_isCell_4 : decode cX4_isCell 4 = .ok (.invokestatic 106, 3) := by decide +kernel
theorem dX4_isCell_7 : decode cX4_isCell 7 = .ok (.ifCond .eq 17, 3) := by decide +kernel
theorem dX4_isCell_10 : decode cX4_isCell 10 = .ok (.iload_n 1, 1) := by decide +kernel
theorem dX4_isCell_11 : decode cX4_isCell 11 = .ok (.iconst 0, 1) := by decide +kernel
theorem dX4_isCell_12 : decode cX4_isCell 12 = .ok (.bipush 19, 2) := by decide +kernel
theorem dX4_isCell_14 : decode cX4_isCell 14 = .ok (.invokestatic 106, 3) := by decide +kernel
theorem dX4_isCell_17 : decode cX4_isCell 17 = .ok (.ifCond .eq 7, 3) := by decide +kernel
theorem dX4_isCell_20 : decode cX4_isCell 20 = .ok (.iconst 1, 1) := by decide +kernel
theorem dX4_isCell_21 : decode cX4_isCell 21 = .ok (.goto 4, 3) := by decide +kernel
theorem dX4_isCell_24 : decode cX4_isCell 24 = .ok (.iconst 0, 1) := by decide +kernel
theorem dX4_isCell_25 : decode cX4_isCell 25 = .ok (.ireturn, 1) := by decide +kernel
theorem dX4_castToLane_0 : decode cX4_castToLane 0 = .ok (.iload_n 1, 1) := by decide +kernel
theorem dX4_castToLane_1 : decode cX4_castToLane 1 = .ok (.ifCond .ne 6, 3) := by decide +kernel
theorem dX4_castToLane_4 : decode cX4_castToLane 4 = .ok (.iload_n 0, 1) := by decide +kernel
theorem dX4_castToLane_5 : decode cX4_castToLane 5 = .ok (.i2b, 1) := by decide +kernel
theorem dX4_castToLane_6 : decode cX4_castToLane 6 = .ok (.ireturn, 1) := by decide +kernel
theorem dX4_castToLane_7 : decode cX4_castToLane 7 = .ok (.iload_n 1, 1) := by decide +kernel
theorem dX4_castToLane_8 : decode cX4_castToLane 8 = .ok (.iconst 1, 1) := by decide +kernel
theorem dX4_castToLane_9 : decode cX4_castToLane 9 = .ok (.if_icmp .ne 8, 3) := by decide +kernel
theorem dX4_castToLane_12 : decode cX4_castToLane 12 = .ok (.iload_n 0, 1) := by decide +kernel
theorem dX4_castToLane_13 : decode cX4_castToLane 13 = .ok (.i2s, 1) := by decide +kernel
theorem dX4_castToLane_14 : decode cX4_castToLane 14 = .ok (.goto 4, 3) := by decide +kernel
theorem dX4_castToLane_17 : decode cX4_castToLane 17 = .ok (.iload_n 0, 1) := by decide +kernel
theorem dX4_castToLane_18 : decode cX4_castToLane 18 = .ok (.ireturn, 1) := by decide +kernel
theorem dX4_plateOf_0 : decode cX4_plateOf 0 = .ok (.iload_n 1, 1) := by decide +kernel
theorem dX4_plateOf_1 : decode cX4_plateOf 1 = .ok (.iconst 0, 1) := by decide +kernel
theorem dX4_plateOf_2 : decode cX4_plateOf 2 = .ok (.iconst 5, 1) := by decide +kernel
theorem dX4_plateOf_3 : decode cX4_plateOf 3 = .ok (.invokestatic 106, 3) := by decide +kernel
theorem dX4_plateOf_6 : decode cX4_plateOf 6 = .ok (.ifCond .eq 12, 3) := by decide +kernel
theorem dX4_plateOf_9 : decode cX4_plateOf 9 = .ok (.aload_n 0, 1) := by decide +kernel
theorem dX4_plateOf_10 : decode cX4_plateOf 10 = .ok (.getfield 11, 3) := by decide +kernel
theorem dX4_plateOf_13 : decode cX4_plateOf 13 = .ok (.iload_n 1, 1) := by decide +kernel
theorem dX4_plateOf_14 : decode cX4_plateOf 14 = .ok (.aaload, 1) := by decide +kernel
theorem dX4_plateOf_15 : decode cX4_plateOf 15 = .ok (.goto 4, 3) := by decide +kernel
theorem dX4_plateOf_18 : decode cX4_plateOf 18 = .ok (.aconst_null, 1) := by decide +kernel
theorem dX4_plateOf_19 : decode cX4_plateOf 19 = .ok (.areturn, 1) := by decide +kernel
theorem dX4_combOf_0 : decode cX4_combOf 0 = .ok (.iload_n 1, 1) := by decide +kernel
theorem dX4_combOf_1 : decode cX4_combOf 1 = .ok (.iconst 0, 1) := by decide +kernel
theorem dX4_combOf_2 : decode cX4_combOf 2 = .ok (.aload_n 0, 1) := by decide +kernel
theorem dX4_combOf_3 : decode cX4_combOf 3 = .ok (.getfield 110, 3) := by decide +kernel
theorem dX4_combOf_6 : decode cX4_combOf 6 = .ok (.iconst 1, 1) := by decide +kernel
theorem dX4_combOf_7 : decode cX4_combOf 7 = .ok (.isub, 1) := by decide +kernel
theorem dX4_combOf_8 : decode cX4_combOf 8 = .ok (.invokestatic 106, 3) := by decide +kernel
theorem dX4_combOf_11 : decode cX4_combOf 11 = .ok (.ifCond .eq 12, 3) := by decide +kernel
theorem dX4_combOf_14 : decode cX4_combOf 14 = .ok (.aload_n 0, 1) := by decide +kernel
theorem dX4_combOf_15 : decode cX4_combOf 15 = .ok (.getfield 21, 3) := by decide +kernel
theorem dX4_combOf_18 : decode cX4_combOf 18 = .ok (.iload_n 1, 1) := by decide +kernel
theorem dX4_combOf_19 : decode cX4_combOf 19 = .ok (.aaload, 1) := by decide +kernel
theorem dX4_combOf_20 : decode cX4_combOf 20 = .ok (.goto 4, 3) := by decide +kernel
theorem dX4_combOf_23 : decode cX4_combOf 23 = .ok (.aconst_null, 1) := by decide +kernel
theorem dX4_combOf_24 : decode cX4_combOf 24 = .ok (.areturn, 1) := by decide +kernel
theorem dX4_caused_0 : decode cX4_caused 0 = .ok (.aload_n 0, 1) := by decide +kernel
theorem dX4_caused_1 : decode cX4_caused 1 = .ok (.iload_n 1, 1) := by decide +kernel
theorem dX4_caused_2 : decode cX4_caused 2 = .ok (.putfield 219, 3) := by decide +kernel
theorem dX4_caused_5 : decode cX4_caused 5 = .ok (.aload_n 0, 1) := by decide +kernel
theorem dX4_caused_6 : decode cX4_caused 6 = .ok (.getfield 33, 3) := by decide +kernel
theorem dX4_caused_9 : decode cX4_caused 9 = .ok (.iload_n 1, 1) := by decide +kernel
theorem dX4_caused_10 : decode cX4_caused 10 = .ok (.dup2, 1) := by decide +kernel
theorem dX4_caused_11 : decode cX4_caused 11 = .ok (.iaload, 1) := by decide +kernel
theorem dX4_caused_12 : decode cX4_caused 12 = .ok (.iconst 1, 1) := by decide +kernel
theorem dX4_caused_13 : decode cX4_caused 13 = .ok (.iadd, 1) := by decide +kernel
theorem dX4_caused_14 : decode cX4_caused 14 = .ok (.iastore, 1) := by decide +kernel
theorem dX4_caused_15 : decode cX4_caused 15 = .ok (.bipush (-10), 2) := by decide +kernel
theorem dX4_caused_17 : decode cX4_caused 17 = .ok (.iload_n 1, 1) := by decide +kernel
theorem dX4_caused_18 : decode cX4_caused 18 = .ok (.isub, 1) := by decide +kernel
theorem dX4_caused_19 : decode cX4_caused 19 = .ok (.ireturn, 1) := by decide +kernel
theorem dX4_isBad_0 : decode cX4_isBad 0 = .ok (.iload_n 1, 1) := by decide +kernel
theorem dX4_isBad_1 : decode cX4_isBad 1 = .ok (.iload_n 2, 1) := by decide +kernel
theorem dX4_isBad_2 : decode cX4_isBad 2 = .ok (.invokestatic 100, 3) := by decide +kernel
theorem dX4_isBad_5 : decode cX4_isBad 5 = .ok (.ifCond .eq 21, 3) := by decide +kernel
theorem dX4_isBad_8 : decode cX4_isBad 8 = .ok (.aload_n 0, 1) := by decide +kernel
theorem dX4_isBad_9 : decode cX4_isBad 9 = .ok (.getfield 15, 3) := by decide +kernel
theorem dX4_isBad_12 : decode cX4_isBad 12 = .ok (.iload_n 2, 1) := by decide +kernel
theorem dX4_isBad_13 : decode cX4_isBad 13 = .ok (.bipush 20, 2) := by decide +kernel
theorem dX4_isBad_15 : decode cX4_isBad 15 = .ok (.imul, 1) := by decide +kernel
theorem dX4_isBad_16 : decode cX4_isBad 16 = .ok (.iload_n 1, 1) := by decide +kernel
theorem dX4_isBad_17 : decode cX4_isBad 17 = .ok (.iadd, 1) := by decide +kernel
theorem dX4_isBad_18 : decode cX4_isBad 18 = .ok (.baload, 1) := by decide +kernel
theorem dX4_isBad_19 : decode cX4_isBad 19 = .ok (.ifCond .eq 7, 3) := by decide +kernel
theorem dX4_isBad_22 : decode cX4_isBad 22 = .ok (.iconst 1, 1) := by decide +kernel
theorem dX4_isBad_23 : decode cX4_isBad 23 = .ok (.goto 4, 3) := by decide +kernel
theorem dX4_isBad_26 : decode cX4_isBad 26 = .ok (.iconst 0, 1) := by decide +kernel
theorem dX4_isBad_27 : decode cX4_isBad 27 = .ok (.ireturn, 1) := by decide +kernel
theorem dX4_fact_0 : decode cX4_fact 0 = .ok (.iload_n 1, 1) := by decide +kernel
theorem dX4_fact_1 : decode cX4_fact 1 = .ok (.tableswitch 95 0 6 #[43, 48, 53, 58, 63, 79, 87], 43) := by decide +kernel
theorem dX4_fact_44 : decode cX4_fact 44 = .ok (.aload_n 0, 1) := by decide +kernel
theorem dX4_fact_45 : decode cX4_fact 45 = .ok (.getfield 113, 3) := by decide +kernel
theorem dX4_fact_48 : decode cX4_fact 48 = .ok (.ireturn, 1) := by decide +kernel
theorem dX4_fact_49 : decode cX4_fact 49 = .ok (.aload_n 0, 1) := by decide +kernel
theorem dX4_fact_50 : decode cX4_fact 50 = .ok (.getfield 116, 3) := by decide +kernel
theorem dX4_fact_53 : decode cX4_fact 53 = .ok (.ireturn, 1) := by decide +kernel
theorem dX4_fact_54 : decode cX4_fact 54 = .ok (.aload_n 0, 1) := by decide +kernel
theorem dX4_fact_55 : decode cX4_fact 55 = .ok (.getfield 119, 3) := by decide +kernel
theorem dX4_fact_58 : decode cX4_fact 58 = .ok (.ireturn, 1) := by decide +kernel
theorem dX4_fact_59 : decode cX4_fact 59 = .ok (.aload_n 0, 1) := by decide +kernel
theorem dX4_fact_60 : decode cX4_fact 60 = .ok (.getfield 141, 3) := by decide +kernel
theorem dX4_fact_63 : decode cX4_fact 63 = .ok (.ireturn, 1) := by decide +kernel
theorem dX4_fact_64 : decode cX4_fact 64 = .ok (.aload_n 0, 1) := by decide +kernel
theorem dX4_fact_65 : decode cX4_fact 65 = .ok (.getfield 151, 3) := by decide +kernel
theorem dX4_fact_68 : decode cX4_fact 68 = .ok (.getfield 182, 3) := by decide +kernel
theorem dX4_fact_71 : decode cX4_fact 71 = .ok (.ifCond .eq 7, 3) := by decide +kernel
theorem dX4_fact_74 : decode cX4_fact 74 = .ok (.iconst 1, 1) := by decide +kernel
theorem dX4_fact_75 : decode cX4_fact 75 = .ok (.goto 4, 3) := by decide +kernel
theorem dX4_fact_78 : decode cX4_fact 78 = .ok (.iconst 0, 1) := by decide +kernel
theorem dX4_fact_79 : decode cX4_fact 79 = .ok (.ireturn, 1) := by decide +kernel
theorem dX4_fact_80 : decode cX4_fact 80 = .ok (.aload_n 0, 1) := by decide +kernel
theorem dX4_fact_81 : decode cX4_fact 81 = .ok (.getfield 151, 3) := by decide +kernel
theorem dX4_fact_84 : decode cX4_fact 84 = .ok (.getfield 185, 3) := by decide +kernel
theorem dX4_fact_87 : decode cX4_fact 87 = .ok (.ireturn, 1) := by decide +kernel
theorem dX4_fact_88 : decode cX4_fact 88 = .ok (.aload_n 0, 1) := by decide +kernel
theorem dX4_fact_89 : decode cX4_fact 89 = .ok (.getfield 151, 3) := by decide +kernel
theorem dX4_fact_92 : decode cX4_fact 92 = .ok (.getfield 186, 3) := by decide +kernel
theorem dX4_fact_95 : decode cX4_fact 95 = .ok (.ireturn, 1) := by decide +kernel
theorem dX4_fact_96 : decode cX4_fact 96 = .ok (.aload_n 0, 1) := by decide +kernel
theorem dX4_fact_97 : decode cX4_fact 97 = .ok (.getfield 151, 3) := by decide +kernel
theorem dX4_fact_100 : decode cX4_fact 100 = .ok (.getfield 187, 3) := by decide +kernel
theorem dX4_fact_103 : decode cX4_fact 103 = .ok (.ireturn, 1) := by decide +kernel
theorem dX4_middleOfLight_0 : decode cX4_middleOfLight 0 = .ok (.lconst 0, 1) := by decide +kernel
theorem dX4_middleOfLight_1 : decode cX4_middleOfLight 1 = .ok (.lstore 4, 2) := by decide +kernel
theorem dX4_middleOfLight_3 : decode cX4_middleOfLight 3 = .ok (.lconst 0, 1) := by decide +kernel
theorem dX4_middleOfLight_4 : decode cX4_middleOfLight 4 = .ok (.lstore 6, 2) := by decide +kernel
theorem dX4_middleOfLight_6 : decode cX4_middleOfLight 6 = .ok (.aload_n 1, 1) := by decide +kernel
theorem dX4_middleOfLight_7 : decode cX4_middleOfLight 7 = .ok (.iload_n 3, 1) := by decide +kernel
theorem dX4_middleOfLight_8 : decode cX4_middleOfLight 8 = .ok (.aload_n 2, 1) := by decide +kernel
theorem dX4_middleOfLight_9 : decode cX4_middleOfLight 9 = .ok (.invokevirtual 134, 3) := by decide +kernel
theorem dX4_middleOfLight_12 : decode cX4_middleOfLight 12 = .ok (.istore 8, 2) := by decide +kernel
theorem dX4_middleOfLight_14 : decode cX4_middleOfLight 14 = .ok (.aload_n 1, 1) := by decide +kernel
theorem dX4_middleOfLight_15 : decode cX4_middleOfLight 15 = .ok (.iload_n 3, 1) := by decide +kernel
theorem dX4_middleOfLight_16 : decode cX4_middleOfLight 16 = .ok (.aload_n 2, 1) := by decide +kernel
theorem dX4_middleOfLight_17 : decode cX4_middleOfLight 17 = .ok (.invokevirtual 130, 3) := by decide +kernel
theorem dX4_middleOfLight_20 : decode cX4_middleOfLight 20 = .ok (.istore 9, 2) := by decide +kernel
theorem dX4_middleOfLight_22 : decode cX4_middleOfLight 22 = .ok (.iload 9, 2) := by decide +kernel
theorem dX4_middleOfLight_24 : decode cX4_middleOfLight 24 = .ok (.iload 8, 2) := by decide +kernel
theorem dX4_middleOfLight_26 : decode cX4_middleOfLight 26 = .ok (.if_icmp .gt 50, 3) := by decide +kernel
theorem dX4_middleOfLight_29 : decode cX4_middleOfLight 29 = .ok (.aload_n 0, 1) := by decide +kernel
theorem dX4_middleOfLight_30 : decode cX4_middleOfLight 30 = .ok (.iload_n 3, 1) := by decide +kernel
theorem dX4_middleOfLight_31 : decode cX4_middleOfLight 31 = .ok (.iload 9, 2) := by decide +kernel
theorem dX4_middleOfLight_33 : decode cX4_middleOfLight 33 = .ok (.invokevirtual 242, 3) := by decide +kernel
theorem dX4_middleOfLight_36 : decode cX4_middleOfLight 36 = .ok (.ifCond .ne 34, 3) := by decide +kernel
theorem dX4_middleOfLight_39 : decode cX4_middleOfLight 39 = .ok (.lload 4, 2) := by decide +kernel
theorem dX4_middleOfLight_41 : decode cX4_middleOfLight 41 = .ok (.aload_n 2, 1) := by decide +kernel
theorem dX4_middleOfLight_42 : decode cX4_middleOfLight 42 = .ok (.iload_n 3, 1) := by decide +kernel
theorem dX4_middleOfLight_43 : decode cX4_middleOfLight 43 = .ok (.iload 9, 2) := by decide +kernel
theorem dX4_middleOfLight_45 : decode cX4_middleOfLight 45 = .ok (.invokevirtual 245, 3) := by decide +kernel
theorem dX4_middleOfLight_48 : decode cX4_middleOfLight 48 = .ok (.ladd, 1) := by decide +kernel
theorem dX4_middleOfLight_49 : decode cX4_middleOfLight 49 = .ok (.lstore 4, 2) := by decide +kernel
theorem dX4_middleOfLight_51 : decode cX4_middleOfLight 51 = .ok (.lload 6, 2) := by decide +kernel
theorem dX4_middleOfLight_53 : decode cX4_middleOfLight 53 = .ok (.aload_n 2, 1) := by decide +kernel
theorem dX4_middleOfLight_54 : decode cX4_middleOfLight 54 = .ok (.iload_n 3, 1) := by decide +kernel
theorem dX4_middleOfLight_55 : decode cX4_middleOfLight 55 = .ok (.iload 9, 2) := by decide +kernel
theorem dX4_middleOfLight_57 : decode cX4_middleOfLight 57 = .ok (.invokevirtual 245, 3) := by decide +kernel
theorem dX4_middleOfLight_60 : decode cX4_middleOfLight 60 = .ok (.bipush 16, 2) := by decide +kernel
theorem dX4_middleOfLight_62 : decode cX4_middleOfLight 62 = .ok (.iload 9, 2) := by decide +kernel
theorem dX4_middleOfLight_64 : decode cX4_middleOfLight 64 = .ok (.imul, 1) := by decide +kernel
theorem dX4_middleOfLight_65 : decode cX4_middleOfLight 65 = .ok (.i2l, 1) := by decide +kernel
theorem dX4_middleOfLight_66 : decode cX4_middleOfLight 66 = .ok (.lmul, 1) := by decide +kernel
theorem dX4_middleOfLight_67 : decode cX4_middleOfLight 67 = .ok (.ladd, 1) := by decide +kernel
theorem dX4_middleOfLight_68 : decode cX4_middleOfLight 68 = .ok (.lstore 6, 2) := by decide +kernel
theorem dX4_middleOfLight_70 : decode cX4_middleOfLight 70 = .ok (.iinc 9 1, 3) := by decide +kernel
theorem dX4_middleOfLight_73 : decode cX4_middleOfLight 73 = .ok (.goto (-51), 3) := by decide +kernel
theorem dX4_middleOfLight_76 : decode cX4_middleOfLight 76 = .ok (.lload 4, 2) := by decide +kernel
theorem dX4_middleOfLight_78 : decode cX4_middleOfLight 78 = .ok (.lconst 0, 1) := by decide +kernel
theorem dX4_middleOfLight_79 : decode cX4_middleOfLight 79 = .ok (.lcmp, 1) := by decide +kernel
theorem dX4_middleOfLight_80 : decode cX4_middleOfLight 80 = .ok (.ifCond .le 14, 3) := by decide +kernel
theorem dX4_middleOfLight_83 : decode cX4_middleOfLight 83 = .ok (.lload 6, 2) := by decide +kernel
theorem dX4_middleOfLight_85 : decode cX4_middleOfLight 85 = .ok (.lload 4, 2) := by decide +kernel
theorem dX4_middleOfLight_87 : decode cX4_middleOfLight 87 = .ok (.invokestatic 249, 3) := by decide +kernel
theorem dX4_middleOfLight_90 : decode cX4_middleOfLight 90 = .ok (.l2i, 1) := by decide +kernel
theorem dX4_middleOfLight_91 : decode cX4_middleOfLight 91 = .ok (.goto 4, 3) := by decide +kernel
theorem dX4_middleOfLight_94 : decode cX4_middleOfLight 94 = .ok (.iconst (-1), 1) := by decide +kernel
theorem dX4_middleOfLight_95 : decode cX4_middleOfLight 95 = .ok (.ireturn, 1) := by decide +kernel
theorem dX4_drawnNumber_0 : decode cX4_drawnNumber 0 = .ok (.aload_n 0, 1) := by decide +kernel
theorem dX4_drawnNumber_1 : decode cX4_drawnNumber 1 = .ok (.aload_n 1, 1) := by decide +kernel
theorem dX4_drawnNumber_2 : decode cX4_drawnNumber 2 = .ok (.aload_n 2, 1) := by decide +kernel
theorem dX4_drawnNumber_3 : decode cX4_drawnNumber 3 = .ok (.aload_n 3, 1) := by decide +kernel
theorem dX4_drawnNumber_4 : decode cX4_drawnNumber 4 = .ok (.iload 4, 2) := by decide +kernel
theorem dX4_drawnNumber_6 : decode cX4_drawnNumber 6 = .ok (.iconst (-1), 1) := by decide +kernel
theorem dX4_drawnNumber_7 : decode cX4_drawnNumber 7 = .ok (.invokevirtual 254, 3) := by decide +kernel
theorem dX4_drawnNumber_10 : decode cX4_drawnNumber 10 = .ok (.iload 5, 2) := by decide +kernel
theorem dX4_drawnNumber_12 : decode cX4_drawnNumber 12 = .ok (.ifCond .le 44, 3) := by decide +kernel
theorem dX4_drawnNumber_15 : decode cX4_drawnNumber 15 = .ok (.aload_n 0, 1) := by decide +kernel
theorem dX4_drawnNumber_16 : decode cX4_drawnNumber 16 = .ok (.getfield 42, 3) := by decide +kernel
theorem dX4_drawnNumber_19 : decode cX4_drawnNumber 19 = .ok (.getfield 258, 3) := by decide +kernel
theorem dX4_drawnNumber_22 : decode cX4_drawnNumber 22 = .ok (.iconst 3, 1) := by decide +kernel
theorem dX4_drawnNumber_23 : decode cX4_drawnNumber 23 = .ok (.if_icmp .lt 33, 3) := by decide +kernel
theorem dX4_drawnNumber_26 : decode cX4_drawnNumber 26 = .ok (.aload_n 0, 1) := by decide +kernel
theorem dX4_drawnNumber_27 : decode cX4_drawnNumber 27 = .ok (.aload_n 1, 1) := by decide +kernel
theorem dX4_drawnNumber_28 : decode cX4_drawnNumber 28 = .ok (.aload_n 2, 1) := by decide +kernel
theorem dX4_drawnNumber_29 : decode cX4_drawnNumber 29 = .ok (.aload_n 3, 1) := by decide +kernel
theorem dX4_drawnNumber_30 : decode cX4_drawnNumber 30 = .ok (.iload 4, 2) := by decide +kernel
theorem dX4_drawnNumber_32 : decode cX4_drawnNumber 32 = .ok (.iload 5, 2) := by decide +kernel
theorem dX4_drawnNumber_34 : decode cX4_drawnNumber 34 = .ok (.invokevirtual 261, 3) := by decide +kernel
theorem dX4_drawnNumber_37 : decode cX4_drawnNumber 37 = .ok (.istore 6, 2) := by decide +kernel
theorem dX4_drawnNumber_39 : decode cX4_drawnNumber 39 = .ok (.iload 6, 2) := by decide +kernel
theorem dX4_drawnNumber_41 : decode cX4_drawnNumber 41 = .ok (.iconst (-1), 1) := by decide +kernel
theorem dX4_drawnNumber_42 : decode cX4_drawnNumber 42 = .ok (.if_icmp .eq 14, 3) := by decide +kernel
theorem dX4_drawnNumber_45 : decode cX4_drawnNumber 45 = .ok (.aload_n 0, 1) := by decide +kernel
theorem dX4_drawnNumber_46 : decode cX4_drawnNumber 46 = .ok (.aload_n 1, 1) := by decide +kernel
theorem dX4_drawnNumber_47 : decode cX4_drawnNumber 47 = .ok (.aload_n 2, 1) := by decide +kernel
theorem dX4_drawnNumber_48 : decode cX4_drawnNumber 48 = .ok (.aload_n 3, 1) := by decide +kernel
theorem dX4_drawnNumber_49 : decode cX4_drawnNumber 49 = .ok (.iload 4, 2) := by decide +kernel
theorem dX4_drawnNumber_51 : decode cX4_drawnNumber 51 = .ok (.iload 6, 2) := by decide +kernel
theorem dX4_drawnNumber_53 : decode cX4_drawnNumber 53 = .ok (.invokevirtual 254, 3) := by decide +kernel
theorem dX4_drawnNumber_56 : decode cX4_drawnNumber 56 = .ok (.aload_n 0, 1) := by decide +kernel
theorem dX4_drawnNumber_57 : decode cX4_drawnNumber 57 = .ok (.getfield 42, 3) := by decide +kernel
theorem dX4_drawnNumber_60 : decode cX4_drawnNumber 60 = .ok (.invokevirtual 265, 3) := by decide +kernel
theorem dX4_drawnNumber_63 : decode cX4_drawnNumber 63 = .ok (.lreturn, 1) := by decide +kernel
theorem dX4_sumColumn_0 : decode cX4_sumColumn 0 = .ok (.aload_n 0, 1) := by decide +kernel
theorem dX4_sumColumn_1 : decode cX4_sumColumn 1 = .ok (.getfield 42, 3) := by decide +kernel
theorem dX4_sumColumn_4 : decode cX4_sumColumn 4 = .ok (.invokevirtual 269, 3) := by decide +kernel
theorem dX4_sumColumn_7 : decode cX4_sumColumn 7 = .ok (.aload_n 1, 1) := by decide +kernel
theorem dX4_sumColumn_8 : decode cX4_sumColumn 8 = .ok (.iload 4, 2) := by decide +kernel
theorem dX4_sumColumn_10 : decode cX4_sumColumn 10 = .ok (.aload_n 3, 1) := by decide +kernel
theorem dX4_sumColumn_11 : decode cX4_sumColumn 11 = .ok (.invokevirtual 134, 3) := by decide +kernel
theorem dX4_sumColumn_14 : decode cX4_sumColumn 14 = .ok (.istore 6, 2) := by decide +kernel
theorem dX4_sumColumn_16 : decode cX4_sumColumn 16 = .ok (.aload_n 1, 1) := by decide +kernel
theorem dX4_sumColumn_17 : decode cX4_sumColumn 17 = .ok (.iload 4, 2) := by decide +kernel
theorem dX4_sumColumn_19 : decode cX4_sumColumn 19 = .ok (.aload_n 3, 1) := by decide +kernel
theorem dX4_sumColumn_20 : decode cX4_sumColumn 20 = .ok (.invokevirtual 130, 3) := by decide +kernel
theorem dX4_sumColumn_23 : decode cX4_sumColumn 23 = .ok (.istore 7, 2) := by decide +kernel
theorem dX4_sumColumn_25 : decode cX4_sumColumn 25 = .ok (.iload 7, 2) := by decide +kernel
theorem dX4_sumColumn_27 : decode cX4_sumColumn 27 = .ok (.iload 6, 2) := by decide +kernel
theorem dX4_sumColumn_29 : decode cX4_sumColumn 29 = .ok (.if_icmp .gt 51, 3) := by decide +kernel
theorem dX4_sumColumn_32 : decode cX4_sumColumn 32 = .ok (.iload 7, 2) := by decide +kernel
theorem dX4_sumColumn_34 : decode cX4_sumColumn 34 = .ok (.iload 5, 2) := by decide +kernel
theorem dX4_sumColumn_36 : decode cX4_sumColumn 36 = .ok (.if_icmp .eq 38, 3) := by decide +kernel
theorem dX4_sumColumn_39 : decode cX4_sumColumn 39 = .ok (.aload_n 0, 1) := by decide +kernel
theorem dX4_sumColumn_40 : decode cX4_sumColumn 40 = .ok (.aload_n 3, 1) := by decide +kernel
theorem dX4_sumColumn_41 : decode cX4_sumColumn 41 = .ok (.iload 4, 2) := by decide +kernel
theorem dX4_sumColumn_43 : decode cX4_sumColumn 43 = .ok (.iload 7, 2) := by decide +kernel
theorem dX4_sumColumn_45 : decode cX4_sumColumn 45 = .ok (.invokevirtual 272, 3) := by decide +kernel
theorem dX4_sumColumn_48 : decode cX4_sumColumn 48 = .ok (.ifCond .eq 26, 3) := by decide +kernel
theorem dX4_sumColumn_51 : decode cX4_sumColumn 51 = .ok (.aload_n 0, 1) := by decide +kernel
theorem dX4_sumColumn_52 : decode cX4_sumColumn 52 = .ok (.getfield 42, 3) := by decide +kernel
theorem dX4_sumColumn_55 : decode cX4_sumColumn 55 = .ok (.aload_n 2, 1) := by decide +kernel
theorem dX4_sumColumn_56 : decode cX4_sumColumn 56 = .ok (.iload 4, 2) := by decide +kernel
theorem dX4_sumColumn_58 : decode cX4_sumColumn 58 = .ok (.iload 7, 2) := by decide +kernel
theorem dX4_sumColumn_60 : decode cX4_sumColumn 60 = .ok (.invokevirtual 245, 3) := by decide +kernel
theorem dX4_sumColumn_63 : decode cX4_sumColumn 63 = .ok (.aload_n 3, 1) := by decide +kernel
theorem dX4_sumColumn_64 : decode cX4_sumColumn 64 = .ok (.iload 4, 2) := by decide +kernel
theorem dX4_sumColumn_66 : decode cX4_sumColumn 66 = .ok (.iload 7, 2) := by decide +kernel
theorem dX4_sumColumn_68 : decode cX4_sumColumn 68 = .ok (.invokevirtual 245, 3) := by decide +kernel
theorem dX4_sumColumn_71 : decode cX4_sumColumn 71 = .ok (.invokevirtual 276, 3) := by decide +kernel
theorem dX4_sumColumn_74 : decode cX4_sumColumn 74 = .ok (.iinc 7 1, 3) := by decide +kernel
theorem dX4_sumColumn_77 : decode cX4_sumColumn 77 = .ok (.goto (-52), 3) := by decide +kernel
theorem dX4_sumColumn_80 : decode cX4_sumColumn 80 = .ok (.return_, 1) := by decide +kernel
theorem dX4_counts_0 : decode cX4_counts 0 = .ok (.aload_n 0, 1) := by decide +kernel
theorem dX4_counts_1 : decode cX4_counts 1 = .ok (.iload_n 2, 1) := by decide +kernel
theorem dX4_counts_2 : decode cX4_counts 2 = .ok (.iload_n 3, 1) := by decide +kernel
theorem dX4_counts_3 : decode cX4_counts 3 = .ok (.invokevirtual 242, 3) := by decide +kernel
theorem dX4_counts_6 : decode cX4_counts 6 = .ok (.ifCond .ne 18, 3) := by decide +kernel
theorem dX4_counts_9 : decode cX4_counts 9 = .ok (.aload_n 1, 1) := by decide +kernel
theorem dX4_counts_10 : decode cX4_counts 10 = .ok (.iload_n 2, 1) := by decide +kernel
theorem dX4_counts_11 : decode cX4_counts 11 = .ok (.iload_n 3, 1) := by decide +kernel
theorem dX4_counts_12 : decode cX4_counts 12 = .ok (.invokevirtual 245, 3) := by decide +kernel
theorem dX4_counts_15 : decode cX4_counts 15 = .ok (.lconst 0, 1) := by decide +kernel
theorem dX4_counts_16 : decode cX4_counts 16 = .ok (.lcmp, 1) := by decide +kernel
theorem dX4_counts_17 : decode cX4_counts 17 = .ok (.ifCond .le 7, 3) := by decide +kernel
theorem dX4_counts_20 : decode cX4_counts 20 = .ok (.iconst 1, 1) := by decide +kernel
theorem dX4_counts_21 : decode cX4_counts 21 = .ok (.goto 4, 3) := by decide +kernel
theorem dX4_counts_24 : decode cX4_counts 24 = .ok (.iconst 0, 1) := by decide +kernel
theorem dX4_counts_25 : decode cX4_counts 25 = .ok (.ireturn, 1) := by decide +kernel
theorem dX4_rayRow_0 : decode cX4_rayRow 0 = .ok (.iconst (-1), 1) := by decide +kernel
theorem dX4_rayRow_1 : decode cX4_rayRow 1 = .ok (.istore 6, 2) := by decide +kernel
theorem dX4_rayRow_3 : decode cX4_rayRow 3 = .ok (.lconst 0, 1) := by decide +kernel
theorem dX4_rayRow_4 : decode cX4_rayRow 4 = .ok (.lstore 7, 2) := by decide +kernel
theorem dX4_rayRow_6 : decode cX4_rayRow 6 = .ok (.aload_n 1, 1) := by decide +kernel
theorem dX4_rayRow_7 : decode cX4_rayRow 7 = .ok (.iload 4, 2) := by decide +kernel
theorem dX4_rayRow_9 : decode cX4_rayRow 9 = .ok (.aload_n 3, 1) := by decide +kernel
theorem dX4_rayRow_10 : decode cX4_rayRow 10 = .ok (.invokevirtual 134, 3) := by decide +kernel
theorem dX4_rayRow_13 : decode cX4_rayRow 13 = .ok (.istore 9, 2) := by decide +kernel
theorem dX4_rayRow_15 : decode cX4_rayRow 15 = .ok (.aload_n 1, 1) := by decide +kernel
theorem dX4_rayRow_16 : decode cX4_rayRow 16 = .ok (.iload 4, 2) := by decide +kernel
theorem dX4_rayRow_18 : decode cX4_rayRow 18 = .ok (.aload_n 3, 1) := by decide +kernel
theorem dX4_rayRow_19 : decode cX4_rayRow 19 = .ok (.invokevirtual 130, 3) := by decide +kernel
theorem dX4_rayRow_22 : decode cX4_rayRow 22 = .ok (.istore 10, 2) := by decide +kernel
theorem dX4_rayRow_24 : decode cX4_rayRow 24 = .ok (.iload 10, 2) := by decide +kernel
theorem dX4_rayRow_26 : decode cX4_rayRow 26 = .ok (.iload 9, 2) := by decide +kernel
theorem dX4_rayRow_28 : decode cX4_rayRow 28 = .ok (.if_icmp .gt 78, 3) := by decide +kernel
theorem dX4_rayRow_31 : decode cX4_rayRow 31 = .ok (.aload_n 0, 1) := by decide +kernel
theorem dX4_rayRow_32 : decode cX4_rayRow 32 = .ok (.aload_n 3, 1) := by decide +kernel
theorem dX4_rayRow_33 : decode cX4_rayRow 33 = .ok (.iload 4, 2) := by decide +kernel
theorem dX4_rayRow_35 : decode cX4_rayRow 35 = .ok (.iload 10, 2) := by decide +kernel
theorem dX4_rayRow_37 : decode cX4_rayRow 37 = .ok (.invokevirtual 272, 3) := by decide +kernel
theorem dX4_rayRow_40 : decode cX4_rayRow 40 = .ok (.ifCond .eq 60, 3) := by decide +kernel
theorem dX4_rayRow_43 : decode cX4_rayRow 43 = .ok (.aload_n 2, 1) := by decide +kernel
theorem dX4_rayRow_44 : decode cX4_rayRow 44 = .ok (.iload 4, 2) := by decide +kernel
theorem dX4_rayRow_46 : decode cX4_rayRow 46 = .ok (.iload 10, 2) := by decide +kernel
theorem dX4_rayRow_48 : decode cX4_rayRow 48 = .ok (.invokevirtual 245, 3) := by decide +kernel
theorem dX4_rayRow_51 : decode cX4_rayRow 51 = .ok (.aload_n 0, 1) := by decide +kernel
theorem dX4_rayRow_52 : decode cX4_rayRow 52 = .ok (.getfield 42, 3) := by decide +kernel
theorem dX4_rayRow_55 : decode cX4_rayRow 55 = .ok (.getfield 280, 3) := by decide +kernel
theorem dX4_rayRow_58 : decode cX4_rayRow 58 = .ok (.lmul, 1) := by decide +kernel
theorem dX4_rayRow_59 : decode cX4_rayRow 59 = .ok (.aload_n 3, 1) := by decide +kernel
theorem dX4_rayRow_60 : decode cX4_rayRow 60 = .ok (.iload 4, 2) := by decide +kernel
theorem dX4_rayRow_62 : decode cX4_rayRow 62 = .ok (.iload 10, 2) := by decide +kernel
theorem dX4_rayRow_64 : decode cX4_rayRow 64 = .ok (.invokevirtual 245, 3) := by decide +kernel
theorem dX4_rayRow_67 : decode cX4_rayRow 67 = .ok (.aload_n 0, 1) := by decide +kernel
theorem dX4_rayRow_68 : decode cX4_rayRow 68 = .ok (.getfield 42, 3) := by decide +kernel
theorem dX4_rayRow_71 : decode cX4_rayRow 71 = .ok (.getfield 284, 3) := by decide +kernel
theorem dX4_rayRow_74 : decode cX4_rayRow 74 = .ok (.lmul, 1) := by decide +kernel
theorem dX4_rayRow_75 : decode cX4_rayRow 75 = .ok (.lsub, 1) := by decide +kernel
theorem dX4_rayRow_76 : decode cX4_rayRow 76 = .ok (.lstore 11, 2) := by decide +kernel
theorem dX4_rayRow_78 : decode cX4_rayRow 78 = .ok (.iload 6, 2) := by decide +kernel
theorem dX4_rayRow_80 : decode cX4_rayRow 80 = .ok (.iconst (-1), 1) := by decide +kernel
theorem dX4_rayRow_81 : decode cX4_rayRow 81 = .ok (.if_icmp .eq 11, 3) := by decide +kernel
theorem dX4_rayRow_84 : decode cX4_rayRow 84 = .ok (.lload 11, 2) := by decide +kernel
theorem dX4_rayRow_86 : decode cX4_rayRow 86 = .ok (.lload 7, 2) := by decide +kernel
theorem dX4_rayRow_88 : decode cX4_rayRow 88 = .ok (.lcmp, 1) := by decide +kernel
theorem dX4_rayRow_89 : decode cX4_rayRow 89 = .ok (.ifCond .le 11, 3) := by decide +kernel
theorem dX4_rayRow_92 : decode cX4_rayRow 92 = .ok (.iload 10, 2) := by decide +kernel
theorem dX4_rayRow_94 : decode cX4_rayRow 94 = .ok (.istore 6, 2) := by decide +kernel
theorem dX4_rayRow_96 : decode cX4_rayRow 96 = .ok (.lload 11, 2) := by decide +kernel
theorem dX4_rayRow_98 : decode cX4_rayRow 98 = .ok (.lstore 7, 2) := by decide +kernel
theorem dX4_rayRow_100 : decode cX4_rayRow 100 = .ok (.iinc 10 1, 3) := by decide +kernel
theorem dX4_rayRow_103 : decode cX4_rayRow 103 = .ok (.goto (-79), 3) := by decide +kernel
theorem dX4_rayRow_106 : decode cX4_rayRow 106 = .ok (.iload 6, 2) := by decide +kernel
theorem dX4_rayRow_108 : decode cX4_rayRow 108 = .ok (.iconst (-1), 1) := by decide +kernel
theorem dX4_rayRow_109 : decode cX4_rayRow 109 = .ok (.if_icmp .eq 29, 3) := by decide +kernel
theorem dX4_rayRow_112 : decode cX4_rayRow 112 = .ok (.lload 7, 2) := by decide +kernel
theorem dX4_rayRow_114 : decode cX4_rayRow 114 = .ok (.iload 5, 2) := by decide +kernel
theorem dX4_rayRow_116 : decode cX4_rayRow 116 = .ok (.i2l, 1) := by decide +kernel
theorem dX4_rayRow_117 : decode cX4_rayRow 117 = .ok (.aload_n 3, 1) := by decide +kernel
theorem dX4_rayRow_118 : decode cX4_rayRow 118 = .ok (.iload 4, 2) := by decide +kernel
theorem dX4_rayRow_120 : decode cX4_rayRow 120 = .ok (.iload 6, 2) := by decide +kernel
theorem dX4_rayRow_122 : decode cX4_rayRow 122 = .ok (.invokevirtual 245, 3) := by decide +kernel
theorem dX4_rayRow_125 : decode cX4_rayRow 125 = .ok (.lmul, 1) := by decide +kernel
theorem dX4_rayRow_126 : decode cX4_rayRow 126 = .ok (.aload_n 0, 1) := by decide +kernel
theorem dX4_rayRow_127 : decode cX4_rayRow 127 = .ok (.getfield 42, 3) := by decide +kernel
theorem dX4_rayRow_130 : decode cX4_rayRow 130 = .ok (.getfield 284, 3) := by decide +kernel
theorem dX4_rayRow_133 : decode cX4_rayRow 133 = .ok (.lmul, 1) := by decide +kernel
theorem dX4_rayRow_134 : decode cX4_rayRow 134 = .ok (.lcmp, 1) := by decide +kernel
theorem dX4_rayRow_135 : decode cX4_rayRow 135 = .ok (.ifCond .gt 5, 3) := by decide +kernel
theorem dX4_rayRow_138 : decode cX4_rayRow 138 = .ok (.iconst (-1), 1) := by decide +kernel
theorem dX4_rayRow_139 : decode cX4_rayRow 139 = .ok (.ireturn, 1) := by decide +kernel
theorem dX4_rayRow_140 : decode cX4_rayRow 140 = .ok (.iload 6, 2) := by decide +kernel
theorem dX4_rayRow_142 : decode cX4_rayRow 142 = .ok (.ireturn, 1) := by decide +kernel
theorem dX4_findPlaces_0 : decode cX4_findPlaces 0 = .ok (.iconst 0, 1) := by decide +kernel
theorem dX4_findPlaces_1 : decode cX4_findPlaces 1 = .ok (.istore 4, 2) := by decide +kernel
theorem dX4_findPlaces_3 : decode cX4_findPlaces 3 = .ok (.iconst 1, 1) := by decide +kernel
theorem dX4_findPlaces_4 : decode cX4_findPlaces 4 = .ok (.istore 5, 2) := by decide +kernel
theorem dX4_findPlaces_6 : decode cX4_findPlaces 6 = .ok (.iload 5, 2) := by decide +kernel
theorem dX4_findPlaces_8 : decode cX4_findPlaces 8 = .ok (.aload_n 1, 1) := by decide +kernel
theorem dX4_findPlaces_9 : decode cX4_findPlaces 9 = .ok (.getfield 141, 3) := by decide +kernel
theorem dX4_findPlaces_12 : decode cX4_findPlaces 12 = .ok (.iconst 1, 1) := by decide +kernel
theorem dX4_findPlaces_13 : decode cX4_findPlaces 13 = .ok (.isub, 1) := by decide +kernel
theorem dX4_findPlaces_14 : decode cX4_findPlaces 14 = .ok (.if_icmp .ge 45, 3) := by decide +kernel
theorem dX4_findPlaces_17 : decode cX4_findPlaces 17 = .ok (.iload 4, 2) := by decide +kernel
theorem dX4_findPlaces_19 : decode cX4_findPlaces 19 = .ok (.aload_n 0, 1) := by decide +kernel
theorem dX4_findPlaces_20 : decode cX4_findPlaces 20 = .ok (.getfield 36, 3) := by decide +kernel
theorem dX4_findPlaces_23 : decode cX4_findPlaces 23 = .ok (.arraylength, 1) := by decide +kernel
theorem dX4_findPlaces_24 : decode cX4_findPlaces 24 = .ok (.if_icmp .ge 35, 3) := by decide +kernel
theorem dX4_findPlaces_27 : decode cX4_findPlaces 27 = .ok (.aload_n 1, 1) := by decide +kernel
theorem dX4_findPlaces_28 : decode cX4_findPlaces 28 = .ok (.iload 5, 2) := by decide +kernel
theorem dX4_findPlaces_30 : decode cX4_findPlaces 30 = .ok (.lload_n 2, 1) := by decide +kernel
theorem dX4_findPlaces_31 : decode cX4_findPlaces 31 = .ok (.invokevirtual 287, 3) := by decide +kernel
theorem dX4_findPlaces_34 : decode cX4_findPlaces 34 = .ok (.ifCond .eq 19, 3) := by decide +kernel
theorem dX4_findPlaces_37 : decode cX4_findPlaces 37 = .ok (.aload_n 0, 1) := by decide +kernel
theorem dX4_findPlaces_38 : decode cX4_findPlaces 38 = .ok (.getfield 36, 3) := by decide +kernel
theorem dX4_findPlaces_41 : decode cX4_findPlaces 41 = .ok (.iload 4, 2) := by decide +kernel
theorem dX4_findPlaces_43 : decode cX4_findPlaces 43 = .ok (.aload_n 1, 1) := by decide +kernel
theorem dX4_findPlaces_44 : decode cX4_findPlaces 44 = .ok (.iload 5, 2) := by decide +kernel
theorem dX4_findPlaces_46 : decode cX4_findPlaces 46 = .ok (.invokevirtual 290, 3) := by decide +kernel
theorem dX4_findPlaces_49 : decode cX4_findPlaces 49 = .ok (.iastore, 1) := by decide +kernel
theorem dX4_findPlaces_50 : decode cX4_findPlaces 50 = .ok (.iinc 4 1, 3) := by decide +kernel
theorem dX4_findPlaces_53 : decode cX4_findPlaces 53 = .ok (.iinc 5 1, 3) := by decide +kernel
theorem dX4_findPlaces_56 : decode cX4_findPlaces 56 = .ok (.goto (-50), 3) := by decide +kernel
theorem dX4_findPlaces_59 : decode cX4_findPlaces 59 = .ok (.iload 4, 2) := by decide +kernel
theorem dX4_findPlaces_61 : decode cX4_findPlaces 61 = .ok (.ireturn, 1) := by decide +kernel
theorem dX4_waveAt_0 : decode cX4_waveAt 0 = .ok (.lload_n 0, 1) := by decide +kernel
theorem dX4_waveAt_1 : decode cX4_waveAt 1 = .ok (.lload_n 2, 1) := by decide +kernel
theorem dX4_waveAt_2 : decode cX4_waveAt 2 = .ok (.iload 4, 2) := by decide +kernel
theorem dX4_waveAt_4 : decode cX4_waveAt 4 = .ok (.i2l, 1) := by decide +kernel
theorem dX4_waveAt_5 : decode cX4_waveAt 5 = .ok (.lmul, 1) := by decide +kernel
theorem dX4_waveAt_6 : decode cX4_waveAt 6 = .ok (.ldc2_w 293, 3) := by decide +kernel
theorem dX4_waveAt_9 : decode cX4_waveAt 9 = .ok (.invokestatic 249, 3) := by decide +kernel
theorem dX4_waveAt_12 : decode cX4_waveAt 12 = .ok (.ladd, 1) := by decide +kernel
theorem dX4_waveAt_13 : decode cX4_waveAt 13 = .ok (.lreturn, 1) := by decide +kernel
theorem dX4_tryPair_0 : decode cX4_tryPair 0 = .ok (.aload_n 0, 1) := by decide +kernel
theorem dX4_tryPair_1 : decode cX4_tryPair 1 = .ok (.getfield 36, 3) := by decide +kernel
theorem dX4_tryPair_4 : decode cX4_tryPair 4 = .ok (.iload_n 2, 1) := by decide +kernel
theorem dX4_tryPair_5 : decode cX4_tryPair 5 = .ok (.iaload, 1) := by decide +kernel
theorem dX4_tryPair_6 : decode cX4_tryPair 6 = .ok (.aload_n 0, 1) := by decide +kernel
theorem dX4_tryPair_7 : decode cX4_tryPair 7 = .ok (.getfield 36, 3) := by decide +kernel
theorem dX4_tryPair_10 : decode cX4_tryPair 10 = .ok (.iload_n 1, 1) := by decide +kernel
theorem dX4_tryPair_11 : decode cX4_tryPair 11 = .ok (.iaload, 1) := by decide +kernel
theorem dX4_tryPair_12 : decode cX4_tryPair 12 = .ok (.isub, 1) := by decide +kernel
theorem dX4_tryPair_13 : decode cX4_tryPair 13 = .ok (.i2l, 1) := by decide +kernel
theorem dX4_tryPair_14 : decode cX4_tryPair 14 = .ok (.lstore 5, 2) := by decide +kernel
theorem dX4_tryPair_16 : decode cX4_tryPair 16 = .ok (.lload 5, 2) := by decide +kernel
theorem dX4_tryPair_18 : decode cX4_tryPair 18 = .ok (.lconst 0, 1) := by decide +kernel
theorem dX4_tryPair_19 : decode cX4_tryPair 19 = .ok (.lcmp, 1) := by decide +kernel
theorem dX4_tryPair_20 : decode cX4_tryPair 20 = .ok (.ifCond .gt 4, 3) := by decide +kernel
theorem dX4_tryPair_23 : decode cX4_tryPair 23 = .ok (.return_, 1) := by decide +kernel
theorem dX4_tryPair_24 : decode cX4_tryPair 24 = .ok (.iconst 0, 1) := by decide +kernel
theorem dX4_tryPair_25 : decode cX4_tryPair 25 = .ok (.istore 7, 2) := by decide +kernel
theorem dX4_tryPair_27 : decode cX4_tryPair 27 = .ok (.iload 7, 2) := by decide +kernel
theorem dX4_tryPair_29 : decode cX4_tryPair 29 = .ok (.aload_n 0, 1) := by decide +kernel
theorem dX4_tryPair_30 : decode cX4_tryPair 30 = .ok (.getfield 172, 3) := by decide +kernel
theorem dX4_tryPair_33 : decode cX4_tryPair 33 = .ok (.if_icmp .ge 131, 3) := by decide +kernel
theorem dX4_tryPair_36 : decode cX4_tryPair 36 = .ok (.iload 7, 2) := by decide +kernel
theorem dX4_tryPair_38 : decode cX4_tryPair 38 = .ok (.iconst 1, 1) := by decide +kernel
theorem dX4_tryPair_39 : decode cX4_tryPair 39 = .ok (.iadd, 1) := by decide +kernel
theorem dX4_tryPair_40 : decode cX4_tryPair 40 = .ok (.istore 8, 2) := by decide +kernel
theorem dX4_tryPair_42 : decode cX4_tryPair 42 = .ok (.iload 8, 2) := by decide +kernel
theorem dX4_tryPair_44 : decode cX4_tryPair 44 = .ok (.aload_n 0, 1) := by decide +kernel
theorem dX4_tryPair_45 : decode cX4_tryPair 45 = .ok (.getfield 172, 3) := by decide +kernel
theorem dX4_tryPair_48 : decode cX4_tryPair 48 = .ok (.if_icmp .ge 110, 3) := by decide +kernel
theorem dX4_tryPair_51 : decode cX4_tryPair 51 = .ok (.ldc2_w 293, 3) := by decide +kernel
theorem dX4_tryPair_54 : decode cX4_tryPair 54 = .ok (.aload_n 0, 1) := by decide +kernel
theorem dX4_tryPair_55 : decode cX4_tryPair 55 = .ok (.getfield 25, 3) := by decide +kernel
theorem dX4_tryPair_58 : decode cX4_tryPair 58 = .ok (.iload 8, 2) := by decide +kernel
theorem dX4_tryPair_60 : decode cX4_tryPair 60 = .ok (.iaload, 1) := by decide +kernel
theorem dX4_tryPair_61 : decode cX4_tryPair 61 = .ok (.aload_n 0, 1) := by decide +kernel
theorem dX4_tryPair_62 : decode cX4_tryPair 62 = .ok (.getfield 25, 3) := by decide +kernel
theorem dX4_tryPair_65 : decode cX4_tryPair 65 = .ok (.iload 7, 2) := by decide +kernel
theorem dX4_tryPair_67 : decode cX4_tryPair 67 = .ok (.iaload, 1) := by decide +kernel
theorem dX4_tryPair_68 : decode cX4_tryPair 68 = .ok (.isub, 1) := by decide +kernel
theorem dX4_tryPair_69 : decode cX4_tryPair 69 = .ok (.i2l, 1) := by decide +kernel
theorem dX4_tryPair_70 : decode cX4_tryPair 70 = .ok (.lmul, 1) := by decide +kernel
theorem dX4_tryPair_71 : decode cX4_tryPair 71 = .ok (.lload 5, 2) := by decide +kernel
theorem dX4_tryPair_73 : decode cX4_tryPair 73 = .ok (.invokestatic 249, 3) := by decide +kernel
theorem dX4_tryPair_76 : decode cX4_tryPair 76 = .ok (.lstore 9, 2) := by decide +kernel
theorem dX4_tryPair_78 : decode cX4_tryPair 78 = .ok (.aload_n 0, 1) := by decide +kernel
theorem dX4_tryPair_79 : decode cX4_tryPair 79 = .ok (.getfield 25, 3) := by decide +kernel
theorem dX4_tryPair_82 : decode cX4_tryPair 82 = .ok (.iload 7, 2) := by decide +kernel
theorem dX4_tryPair_84 : decode cX4_tryPair 84 = .ok (.iaload, 1) := by decide +kernel
theorem dX4_tryPair_85 : decode cX4_tryPair 85 = .ok (.i2l, 1) := by decide +kernel
theorem dX4_tryPair_86 : decode cX4_tryPair 86 = .ok (.lload 9, 2) := by decide +kernel
theorem dX4_tryPair_88 : decode cX4_tryPair 88 = .ok (.aload_n 0, 1) := by decide +kernel
theorem dX4_tryPair_89 : decode cX4_tryPair 89 = .ok (.getfield 36, 3) := by decide +kernel
theorem dX4_tryPair_92 : decode cX4_tryPair 92 = .ok (.iload_n 1, 1) := by decide +kernel
theorem dX4_tryPair_93 : decode cX4_tryPair 93 = .ok (.iaload, 1) := by decide +kernel
theorem dX4_tryPair_94 : decode cX4_tryPair 94 = .ok (.i2l, 1) := by decide +kernel
theorem dX4_tryPair_95 : decode cX4_tryPair 95 = .ok (.lmul, 1) := by decide +kernel
theorem dX4_tryPair_96 : decode cX4_tryPair 96 = .ok (.ldc2_w 293, 3) := by decide +kernel
theorem dX4_tryPair_99 : decode cX4_tryPair 99 = .ok (.invokestatic 249, 3) := by decide +kernel
theorem dX4_tryPair_102 : decode cX4_tryPair 102 = .ok (.lsub, 1) := by decide +kernel
theorem dX4_tryPair_103 : decode cX4_tryPair 103 = .ok (.lstore 11, 2) := by decide +kernel
theorem dX4_tryPair_105 : decode cX4_tryPair 105 = .ok (.lload 9, 2) := by decide +kernel
theorem dX4_tryPair_107 : decode cX4_tryPair 107 = .ok (.lconst 1, 1) := by decide +kernel
theorem dX4_tryPair_108 : decode cX4_tryPair 108 = .ok (.lcmp, 1) := by decide +kernel
theorem dX4_tryPair_109 : decode cX4_tryPair 109 = .ok (.ifCond .lt 43, 3) := by decide +kernel
theorem dX4_tryPair_112 : decode cX4_tryPair 112 = .ok (.lload 9, 2) := by decide +kernel
theorem dX4_tryPair_114 : decode cX4_tryPair 114 = .ok (.ldc2_w 295, 3) := by decide +kernel
theorem dX4_tryPair_117 : decode cX4_tryPair 117 = .ok (.lcmp, 1) := by decide +kernel
theorem dX4_tryPair_118 : decode cX4_tryPair 118 = .ok (.ifCond .gt 34, 3) := by decide +kernel
theorem dX4_tryPair_121 : decode cX4_tryPair 121 = .ok (.lload 11, 2) := by decide +kernel
theorem dX4_tryPair_123 : decode cX4_tryPair 123 = .ok (.ldc2_w 297, 3) := by decide +kernel
theorem dX4_tryPair_126 : decode cX4_tryPair 126 = .ok (.lcmp, 1) := by decide +kernel
theorem dX4_tryPair_127 : decode cX4_tryPair 127 = .ok (.ifCond .lt 25, 3) := by decide +kernel
theorem dX4_tryPair_130 : decode cX4_tryPair 130 = .ok (.lload 11, 2) := by decide +kernel
theorem dX4_tryPair_132 : decode cX4_tryPair 132 = .ok (.ldc2_w 299, 3) := by decide +kernel
theorem dX4_tryPair_135 : decode cX4_tryPair 135 = .ok (.lcmp, 1) := by decide +kernel
theorem dX4_tryPair_136 : decode cX4_tryPair 136 = .ok (.ifCond .gt 16, 3) := by decide +kernel
theorem dX4_tryPair_139 : decode cX4_tryPair 139 = .ok (.aload_n 0, 1) := by decide +kernel
theorem dX4_tryPair_140 : decode cX4_tryPair 140 = .ok (.lload 11, 2) := by decide +kernel
theorem dX4_tryPair_142 : decode cX4_tryPair 142 = .ok (.l2i, 1) := by decide +kernel
theorem dX4_tryPair_143 : decode cX4_tryPair 143 = .ok (.lload 9, 2) := by decide +kernel
theorem dX4_tryPair_145 : decode cX4_tryPair 145 = .ok (.l2i, 1) := by decide +kernel
theorem dX4_tryPair_146 : decode cX4_tryPair 146 = .ok (.iload_n 3, 1) := by decide +kernel
theorem dX4_tryPair_147 : decode cX4_tryPair 147 = .ok (.iload 4, 2) := by decide +kernel
theorem dX4_tryPair_149 : decode cX4_tryPair 149 = .ok (.invokevirtual 301, 3) := by decide +kernel
theorem dX4_tryPair_152 : decode cX4_tryPair 152 = .ok (.iinc 8 1, 3) := by decide +kernel
theorem dX4_tryPair_155 : decode cX4_tryPair 155 = .ok (.goto (-113), 3) := by decide +kernel
theorem dX4_tryPair_158 : decode cX4_tryPair 158 = .ok (.iinc 7 1, 3) := by decide +kernel
theorem dX4_tryPair_161 : decode cX4_tryPair 161 = .ok (.goto (-134), 3) := by decide +kernel
theorem dX4_tryPair_164 : decode cX4_tryPair 164 = .ok (.return_, 1) := by decide +kernel
theorem dX4_offer_0 : decode cX4_offer 0 = .ok (.iconst 0, 1) := by decide +kernel
theorem dX4_offer_1 : decode cX4_offer 1 = .ok (.istore 5, 2) := by decide +kernel
theorem dX4_offer_3 : decode cX4_offer 3 = .ok (.iconst 0, 1) := by decide +kernel
theorem dX4_offer_4 : decode cX4_offer 4 = .ok (.istore 6, 2) := by decide +kernel
theorem dX4_offer_6 : decode cX4_offer 6 = .ok (.iload 6, 2) := by decide +kernel
theorem dX4_offer_8 : decode cX4_offer 8 = .ok (.iload_n 3, 1) := by decide +kernel
theorem dX4_offer_9 : decode cX4_offer 9 = .ok (.if_icmp .ge 35, 3) := by decide +kernel
theorem dX4_offer_12 : decode cX4_offer 12 = .ok (.aload_n 0, 1) := by decide +kernel
theorem dX4_offer_13 : decode cX4_offer 13 = .ok (.iload_n 1, 1) := by decide +kernel
theorem dX4_offer_14 : decode cX4_offer 14 = .ok (.i2l, 1) := by decide +kernel
theorem dX4_offer_15 : decode cX4_offer 15 = .ok (.iload_n 2, 1) := by decide +kernel
theorem dX4_offer_16 : decode cX4_offer 16 = .ok (.i2l, 1) := by decide +kernel
theorem dX4_offer_17 : decode cX4_offer 17 = .ok (.aload_n 0, 1) := by decide +kernel
theorem dX4_offer_18 : decode cX4_offer 18 = .ok (.getfield 36, 3) := by decide +kernel
theorem dX4_offer_21 : decode cX4_offer 21 = .ok (.iload 6, 2) := by decide +kernel
theorem dX4_offer_23 : decode cX4_offer 23 = .ok (.iaload, 1) := by decide +kernel
theorem dX4_offer_24 : decode cX4_offer 24 = .ok (.invokestatic 198, 3) := by decide +kernel
theorem dX4_offer_27 : decode cX4_offer 27 = .ok (.iload 4, 2) := by decide +kernel
theorem dX4_offer_29 : decode cX4_offer 29 = .ok (.invokevirtual 304, 3) := by decide +kernel
theorem dX4_offer_32 : decode cX4_offer 32 = .ok (.ifCond .eq 6, 3) := by decide +kernel
theorem dX4_offer_35 : decode cX4_offer 35 = .ok (.iinc 5 1, 3) := by decide +kernel
theorem dX4_offer_38 : decode cX4_offer 38 = .ok (.iinc 6 1, 3) := by decide +kernel
theorem dX4_offer_41 : decode cX4_offer 41 = .ok (.goto (-35), 3) := by decide +kernel
theorem dX4_offer_44 : decode cX4_offer 44 = .ok (.iload 5, 2) := by decide +kernel
theorem dX4_offer_46 : decode cX4_offer 46 = .ok (.iconst 2, 1) := by decide +kernel
theorem dX4_offer_47 : decode cX4_offer 47 = .ok (.if_icmp .lt 28, 3) := by decide +kernel
theorem dX4_offer_50 : decode cX4_offer 50 = .ok (.aload_n 0, 1) := by decide +kernel
theorem dX4_offer_51 : decode cX4_offer 51 = .ok (.getfield 49, 3) := by decide +kernel
theorem dX4_offer_54 : decode cX4_offer 54 = .ok (.iload_n 1, 1) := by decide +kernel
theorem dX4_offer_55 : decode cX4_offer 55 = .ok (.iload_n 2, 1) := by decide +kernel
theorem dX4_offer_56 : decode cX4_offer 56 = .ok (.iload 5, 2) := by decide +kernel
theorem dX4_offer_58 : decode cX4_offer 58 = .ok (.invokevirtual 308, 3) := by decide +kernel
theorem dX4_offer_61 : decode cX4_offer 61 = .ok (.ifCond .eq 14, 3) := by decide +kernel
theorem dX4_offer_64 : decode cX4_offer 64 = .ok (.aload_n 0, 1) := by decide +kernel
theorem dX4_offer_65 : decode cX4_offer 65 = .ok (.getfield 49, 3) := by decide +kernel
theorem dX4_offer_68 : decode cX4_offer 68 = .ok (.iload_n 1, 1) := by decide +kernel
theorem dX4_offer_69 : decode cX4_offer 69 = .ok (.iload_n 2, 1) := by decide +kernel
theorem dX4_offer_70 : decode cX4_offer 70 = .ok (.iload 5, 2) := by decide +kernel
theorem dX4_offer_72 : decode cX4_offer 72 = .ok (.invokevirtual 190, 3) := by decide +kernel
theorem dX4_offer_75 : decode cX4_offer 75 = .ok (.return_, 1) := by decide +kernel
theorem dX4_nearLine_0 : decode cX4_nearLine 0 = .ok (.iconst 0, 1) := by decide +kernel
theorem dX4_nearLine_1 : decode cX4_nearLine 1 = .ok (.istore 4, 2) := by decide +kernel
theorem dX4_nearLine_3 : decode cX4_nearLine 3 = .ok (.iload 4, 2) := by decide +kernel
theorem dX4_nearLine_5 : decode cX4_nearLine 5 = .ok (.aload_n 0, 1) := by decide +kernel
theorem dX4_nearLine_6 : decode cX4_nearLine 6 = .ok (.getfield 172, 3) := by decide +kernel
theorem dX4_nearLine_9 : decode cX4_nearLine 9 = .ok (.if_icmp .ge 30, 3) := by decide +kernel
theorem dX4_nearLine_12 : decode cX4_nearLine 12 = .ok (.aload_n 0, 1) := by decide +kernel
theorem dX4_nearLine_13 : decode cX4_nearLine 13 = .ok (.getfield 25, 3) := by decide +kernel
theorem dX4_nearLine_16 : decode cX4_nearLine 16 = .ok (.iload 4, 2) := by decide +kernel
theorem dX4_nearLine_18 : decode cX4_nearLine 18 = .ok (.iaload, 1) := by decide +kernel
theorem dX4_nearLine_19 : decode cX4_nearLine 19 = .ok (.i2l, 1) := by decide +kernel
theorem dX4_nearLine_20 : decode cX4_nearLine 20 = .ok (.lload_n 1, 1) := by decide +kernel
theorem dX4_nearLine_21 : decode cX4_nearLine 21 = .ok (.lsub, 1) := by decide +kernel
theorem dX4_nearLine_22 : decode cX4_nearLine 22 = .ok (.invokestatic 311, 3) := by decide +kernel
theorem dX4_nearLine_25 : decode cX4_nearLine 25 = .ok (.iload_n 3, 1) := by decide +kernel
theorem dX4_nearLine_26 : decode cX4_nearLine 26 = .ok (.i2l, 1) := by decide +kernel
theorem dX4_nearLine_27 : decode cX4_nearLine 27 = .ok (.lcmp, 1) := by decide +kernel
theorem dX4_nearLine_28 : decode cX4_nearLine 28 = .ok (.ifCond .gt 5, 3) := by decide +kernel
theorem dX4_nearLine_31 : decode cX4_nearLine 31 = .ok (.iconst 1, 1) := by decide +kernel
theorem dX4_nearLine_32 : decode cX4_nearLine 32 = .ok (.ireturn, 1) := by decide +kernel
theorem dX4_nearLine_33 : decode cX4_nearLine 33 = .ok (.iinc 4 1, 3) := by decide +kernel
theorem dX4_nearLine_36 : decode cX4_nearLine 36 = .ok (.goto (-33), 3) := by decide +kernel
theorem dX4_nearLine_39 : decode cX4_nearLine 39 = .ok (.iconst 0, 1) := by decide +kernel
theorem dX4_nearLine_40 : decode cX4_nearLine 40 = .ok (.ireturn, 1) := by decide +kernel
theorem dX4_joinAt_0 : decode cX4_joinAt 0 = .ok (.lconst 0, 1) := by decide +kernel
theorem dX4_joinAt_1 : decode cX4_joinAt 1 = .ok (.lstore 4, 2) := by decide +kernel
theorem dX4_joinAt_3 : decode cX4_joinAt 3 = .ok (.lconst 0, 1) := by decide +kernel
theorem dX4_joinAt_4 : decode cX4_joinAt 4 = .ok (.lstore 6, 2) := by decide +kernel
theorem dX4_joinAt_6 : decode cX4_joinAt 6 = .ok (.iconst 0, 1) := by decide +kernel
theorem dX4_joinAt_7 : decode cX4_joinAt 7 = .ok (.istore 8, 2) := by decide +kernel
theorem dX4_joinAt_9 : decode cX4_joinAt 9 = .ok (.iload 8, 2) := by decide +kernel
theorem dX4_joinAt_11 : decode cX4_joinAt 11 = .ok (.aload_n 0, 1) := by decide +kernel
theorem dX4_joinAt_12 : decode cX4_joinAt 12 = .ok (.getfield 110, 3) := by decide +kernel
theorem dX4_joinAt_15 : decode cX4_joinAt 15 = .ok (.if_icmp .ge 63, 3) := by decide +kernel
theorem dX4_joinAt_18 : decode cX4_joinAt 18 = .ok (.aload_n 0, 1) := by decide +kernel
theorem dX4_joinAt_19 : decode cX4_joinAt 19 = .ok (.getfield 21, 3) := by decide +kernel
theorem dX4_joinAt_22 : decode cX4_joinAt 22 = .ok (.iload 8, 2) := by decide +kernel
theorem dX4_joinAt_24 : decode cX4_joinAt 24 = .ok (.aaload, 1) := by decide +kernel
theorem dX4_joinAt_25 : decode cX4_joinAt 25 = .ok (.lload_n 2, 1) := by decide +kernel
theorem dX4_joinAt_26 : decode cX4_joinAt 26 = .ok (.invokestatic 315, 3) := by decide +kernel
theorem dX4_joinAt_29 : decode cX4_joinAt 29 = .ok (.istore 9, 2) := by decide +kernel
theorem dX4_joinAt_31 : decode cX4_joinAt 31 = .ok (.iload 9, 2) := by decide +kernel
theorem dX4_joinAt_33 : decode cX4_joinAt 33 = .ok (.iconst (-1), 1) := by decide +kernel
theorem dX4_joinAt_34 : decode cX4_joinAt 34 = .ok (.if_icmp .eq 38, 3) := by decide +kernel
theorem dX4_joinAt_37 : decode cX4_joinAt 37 = .ok (.aload_n 0, 1) := by decide +kernel
theorem dX4_joinAt_38 : decode cX4_joinAt 38 = .ok (.getfield 21, 3) := by decide +kernel
theorem dX4_joinAt_41 : decode cX4_joinAt 41 = .ok (.iload 8, 2) := by decide +kernel
theorem dX4_joinAt_43 : decode cX4_joinAt 43 = .ok (.aaload, 1) := by decide +kernel
theorem dX4_joinAt_44 : decode cX4_joinAt 44 = .ok (.iload 9, 2) := by decide +kernel
theorem dX4_joinAt_46 : decode cX4_joinAt 46 = .ok (.invokevirtual 162, 3) := by decide +kernel
theorem dX4_joinAt_49 : decode cX4_joinAt 49 = .ok (.lstore 10, 2) := by decide +kernel
theorem dX4_joinAt_51 : decode cX4_joinAt 51 = .ok (.lload 4, 2) := by decide +kernel
theorem dX4_joinAt_53 : decode cX4_joinAt 53 = .ok (.lload 10, 2) := by decide +kernel
theorem dX4_joinAt_55 : decode cX4_joinAt 55 = .ok (.lload 10, 2) := by decide +kernel
theorem dX4_joinAt_57 : decode cX4_joinAt 57 = .ok (.lconst 1, 1) := by decide +kernel
theorem dX4_joinAt_58 : decode cX4_joinAt 58 = .ok (.ladd, 1) := by decide +kernel
theorem dX4_joinAt_59 : decode cX4_joinAt 59 = .ok (.lmul, 1) := by decide +kernel
theorem dX4_joinAt_60 : decode cX4_joinAt 60 = .ok (.ladd, 1) := by decide +kernel
theorem dX4_joinAt_61 : decode cX4_joinAt 61 = .ok (.lstore 4, 2) := by decide +kernel
theorem dX4_joinAt_63 : decode cX4_joinAt 63 = .ok (.lload 6, 2) := by decide +kernel
theorem dX4_joinAt_65 : decode cX4_joinAt 65 = .ok (.lload 10, 2) := by decide +kernel
theorem dX4_joinAt_67 : decode cX4_joinAt 67 = .ok (.lconst 1, 1) := by decide +kernel
theorem dX4_joinAt_68 : decode cX4_joinAt 68 = .ok (.ladd, 1) := by decide +kernel
theorem dX4_joinAt_69 : decode cX4_joinAt 69 = .ok (.ladd, 1) := by decide +kernel
theorem dX4_joinAt_70 : decode cX4_joinAt 70 = .ok (.lstore 6, 2) := by decide +kernel
theorem dX4_joinAt_72 : decode cX4_joinAt 72 = .ok (.iinc 8 1, 3) := by decide +kernel
theorem dX4_joinAt_75 : decode cX4_joinAt 75 = .ok (.goto (-66), 3) := by decide +kernel
theorem dX4_joinAt_78 : decode cX4_joinAt 78 = .ok (.aload_n 0, 1) := by decide +kernel
theorem dX4_joinAt_79 : decode cX4_joinAt 79 = .ok (.getfield 29, 3) := by decide +kernel
theorem dX4_joinAt_82 : decode cX4_joinAt 82 = .ok (.iload_n 1, 1) := by decide +kernel
theorem dX4_joinAt_83 : decode cX4_joinAt 83 = .ok (.lload 6, 2) := by decide +kernel
theorem dX4_joinAt_85 : decode cX4_joinAt 85 = .ok (.lconst 0, 1) := by decide +kernel
theorem dX4_joinAt_86 : decode cX4_joinAt 86 = .ok (.lcmp, 1) := by decide +kernel
theorem dX4_joinAt_87 : decode cX4_joinAt 87 = .ok (.ifCond .le 13, 3) := by decide +kernel
theorem dX4_joinAt_90 : decode cX4_joinAt 90 = .ok (.lload 4, 2) := by decide +kernel
theorem dX4_joinAt_92 : decode cX4_joinAt 92 = .ok (.lload 6, 2) := by decide +kernel
theorem dX4_joinAt_94 : decode cX4_joinAt 94 = .ok (.invokestatic 249, 3) := by decide +kernel
theorem dX4_joinAt_97 : decode cX4_joinAt 97 = .ok (.goto 4, 3) := by decide +kernel
theorem dX4_joinAt_100 : decode cX4_joinAt 100 = .ok (.lconst 0, 1) := by decide +kernel
theorem dX4_joinAt_101 : decode cX4_joinAt 101 = .ok (.lastore, 1) := by decide +kernel
theorem dX4_joinAt_102 : decode cX4_joinAt 102 = .ok (.lload 6, 2) := by decide +kernel
theorem dX4_joinAt_104 : decode cX4_joinAt 104 = .ok (.lconst 0, 1) := by decide +kernel
theorem dX4_joinAt_105 : decode cX4_joinAt 105 = .ok (.lcmp, 1) := by decide +kernel
theorem dX4_joinAt_106 : decode cX4_joinAt 106 = .ok (.ifCond .le 7, 3) := by decide +kernel
theorem dX4_joinAt_109 : decode cX4_joinAt 109 = .ok (.iconst 1, 1) := by decide +kernel
theorem dX4_joinAt_110 : decode cX4_joinAt 110 = .ok (.goto 4, 3) := by decide +kernel
theorem dX4_joinAt_113 : decode cX4_joinAt 113 = .ok (.iconst 0, 1) := by decide +kernel
theorem dX4_joinAt_114 : decode cX4_joinAt 114 = .ok (.ireturn, 1) := by decide +kernel
theorem dX4_columnAt_0 : decode cX4_columnAt 0 = .ok (.aload_n 0, 1) := by decide +kernel
theorem dX4_columnAt_1 : decode cX4_columnAt 1 = .ok (.getfield 151, 3) := by decide +kernel
theorem dX4_columnAt_4 : decode cX4_columnAt 4 = .ok (.getfield 182, 3) := by decide +kernel
theorem dX4_columnAt_7 : decode cX4_columnAt 7 = .ok (.ifCond .ne 5, 3) := by decide +kernel
theorem dX4_columnAt_10 : decode cX4_columnAt 10 = .ok (.iconst (-1), 1) := by decide +kernel
theorem dX4_columnAt_11 : decode cX4_columnAt 11 = .ok (.ireturn, 1) := by decide +kernel
theorem dX4_columnAt_12 : decode cX4_columnAt 12 = .ok (.aload_n 0, 1) := by decide +kernel
theorem dX4_columnAt_13 : decode cX4_columnAt 13 = .ok (.getfield 141, 3) := by decide +kernel
theorem dX4_columnAt_16 : decode cX4_columnAt 16 = .ok (.iconst 1, 1) := by decide +kernel
theorem dX4_columnAt_17 : decode cX4_columnAt 17 = .ok (.isub, 1) := by decide +kernel
theorem dX4_columnAt_18 : decode cX4_columnAt 18 = .ok (.istore_n 3, 1) := by decide +kernel
theorem dX4_columnAt_19 : decode cX4_columnAt 19 = .ok (.iload_n 3, 1) := by decide +kernel
theorem dX4_columnAt_20 : decode cX4_columnAt 20 = .ok (.ifCond .lt 64, 3) := by decide +kernel
theorem dX4_columnAt_23 : decode cX4_columnAt 23 = .ok (.aload_n 0, 1) := by decide +kernel
theorem dX4_columnAt_24 : decode cX4_columnAt 24 = .ok (.getfield 151, 3) := by decide +kernel
theorem dX4_columnAt_27 : decode cX4_columnAt 27 = .ok (.getfield 185, 3) := by decide +kernel
theorem dX4_columnAt_30 : decode cX4_columnAt 30 = .ok (.i2l, 1) := by decide +kernel
theorem dX4_columnAt_31 : decode cX4_columnAt 31 = .ok (.aload_n 0, 1) := by decide +kernel
theorem dX4_columnAt_32 : decode cX4_columnAt 32 = .ok (.getfield 151, 3) := by decide +kernel
theorem dX4_columnAt_35 : decode cX4_columnAt 35 = .ok (.getfield 186, 3) := by decide +kernel
theorem dX4_columnAt_38 : decode cX4_columnAt 38 = .ok (.i2l, 1) := by decide +kernel
theorem dX4_columnAt_39 : decode cX4_columnAt 39 = .ok (.bipush 64, 2) := by decide +kernel
theorem dX4_columnAt_41 : decode cX4_columnAt 41 = .ok (.iload_n 3, 1) := by decide +kernel
theorem dX4_columnAt_42 : decode cX4_columnAt 42 = .ok (.imul, 1) := by decide +kernel
theorem dX4_columnAt_43 : decode cX4_columnAt 43 = .ok (.invokestatic 198, 3) := by decide +kernel
theorem dX4_columnAt_46 : decode cX4_columnAt 46 = .ok (.lstore 4, 2) := by decide +kernel
theorem dX4_columnAt_48 : decode cX4_columnAt 48 = .ok (.lload 4, 2) := by decide +kernel
theorem dX4_columnAt_50 : decode cX4_columnAt 50 = .ok (.lload_n 1, 1) := by decide +kernel
theorem dX4_columnAt_51 : decode cX4_columnAt 51 = .ok (.lcmp, 1) := by decide +kernel
theorem dX4_columnAt_52 : decode cX4_columnAt 52 = .ok (.ifCond .gt 26, 3) := by decide +kernel
theorem dX4_columnAt_55 : decode cX4_columnAt 55 = .ok (.aload_n 0, 1) := by decide +kernel
theorem dX4_columnAt_56 : decode cX4_columnAt 56 = .ok (.iload_n 3, 1) := by decide +kernel
theorem dX4_columnAt_57 : decode cX4_columnAt 57 = .ok (.iconst 1, 1) := by decide +kernel
theorem dX4_columnAt_58 : decode cX4_columnAt 58 = .ok (.iadd, 1) := by decide +kernel
theorem dX4_columnAt_59 : decode cX4_columnAt 59 = .ok (.invokevirtual 159, 3) := by decide +kernel
theorem dX4_columnAt_62 : decode cX4_columnAt 62 = .ok (.ifCond .ne 10, 3) := by decide +kernel
theorem dX4_columnAt_65 : decode cX4_columnAt 65 = .ok (.lload 4, 2) := by decide +kernel
theorem dX4_columnAt_67 : decode cX4_columnAt 67 = .ok (.lload_n 1, 1) := by decide +kernel
theorem dX4_columnAt_68 : decode cX4_columnAt 68 = .ok (.lcmp, 1) := by decide +kernel
theorem dX4_columnAt_69 : decode cX4_columnAt 69 = .ok (.ifCond .ne 7, 3) := by decide +kernel
theorem dX4_columnAt_72 : decode cX4_columnAt 72 = .ok (.iload_n 3, 1) := by decide +kernel
theorem dX4_columnAt_73 : decode cX4_columnAt 73 = .ok (.goto 4, 3) := by decide +kernel
theorem dX4_columnAt_76 : decode cX4_columnAt 76 = .ok (.iconst (-1), 1) := by decide +kernel
theorem dX4_columnAt_77 : decode cX4_columnAt 77 = .ok (.ireturn, 1) := by decide +kernel
theorem dX4_columnAt_78 : decode cX4_columnAt 78 = .ok (.iinc 3 (-1), 3) := by decide +kernel
theorem dX4_columnAt_81 : decode cX4_columnAt 81 = .ok (.goto (-62), 3) := by decide +kernel
theorem dX4_columnAt_84 : decode cX4_columnAt 84 = .ok (.iconst (-1), 1) := by decide +kernel
theorem dX4_columnAt_85 : decode cX4_columnAt 85 = .ok (.ireturn, 1) := by decide +kernel
theorem dX4_crossSum_0 : decode cX4_crossSum 0 = .ok (.lconst 0, 1) := by decide +kernel
theorem dX4_crossSum_1 : decode cX4_crossSum 1 = .ok (.lstore_n 3, 1) := by decide +kernel
theorem dX4_crossSum_2 : decode cX4_crossSum 2 = .ok (.iconst 0, 1) := by decide +kernel
theorem dX4_crossSum_3 : decode cX4_crossSum 3 = .ok (.istore 5, 2) := by decide +kernel
theorem dX4_crossSum_5 : decode cX4_crossSum 5 = .ok (.iload 5, 2) := by decide +kernel
theorem dX4_crossSum_7 : decode cX4_crossSum 7 = .ok (.aload_n 0, 1) := by decide +kernel
theorem dX4_crossSum_8 : decode cX4_crossSum 8 = .ok (.getfield 141, 3) := by decide +kernel
theorem dX4_crossSum_11 : decode cX4_crossSum 11 = .ok (.if_icmp .ge 38, 3) := by decide +kernel
theorem dX4_crossSum_14 : decode cX4_crossSum 14 = .ok (.aload_n 1, 1) := by decide +kernel
theorem dX4_crossSum_15 : decode cX4_crossSum 15 = .ok (.iload 5, 2) := by decide +kernel
theorem dX4_crossSum_17 : decode cX4_crossSum 17 = .ok (.iload_n 2, 1) := by decide +kernel
theorem dX4_crossSum_18 : decode cX4_crossSum 18 = .ok (.iadd, 1) := by decide +kernel
theorem dX4_crossSum_19 : decode cX4_crossSum 19 = .ok (.invokevirtual 159, 3) := by decide +kernel
theorem dX4_crossSum_22 : decode cX4_crossSum 22 = .ok (.ifCond .eq 21, 3) := by decide +kernel
theorem dX4_crossSum_25 : decode cX4_crossSum 25 = .ok (.lload_n 3, 1) := by decide +kernel
theorem dX4_crossSum_26 : decode cX4_crossSum 26 = .ok (.aload_n 0, 1) := by decide +kernel
theorem dX4_crossSum_27 : decode cX4_crossSum 27 = .ok (.iload 5, 2) := by decide +kernel
theorem dX4_crossSum_29 : decode cX4_crossSum 29 = .ok (.invokevirtual 162, 3) := by decide +kernel
theorem dX4_crossSum_32 : decode cX4_crossSum 32 = .ok (.aload_n 1, 1) := by decide +kernel
theorem dX4_crossSum_33 : decode cX4_crossSum 33 = .ok (.iload 5, 2) := by decide +kernel
theorem dX4_crossSum_35 : decode cX4_crossSum 35 = .ok (.iload_n 2, 1) := by decide +kernel
theorem dX4_crossSum_36 : decode cX4_crossSum 36 = .ok (.iadd, 1) := by decide +kernel
theorem dX4_crossSum_37 : decode cX4_crossSum 37 = .ok (.invokevirtual 162, 3) := by decide +kernel
theorem dX4_crossSum_40 : decode cX4_crossSum 40 = .ok (.lmul, 1) := by decide +kernel
theorem dX4_crossSum_41 : decode cX4_crossSum 41 = .ok (.ladd, 1) := by decide +kernel
theorem dX4_crossSum_42 : decode cX4_crossSum 42 = .ok (.lstore_n 3, 1) := by decide +kernel
theorem dX4_crossSum_43 : decode cX4_crossSum 43 = .ok (.iinc 5 1, 3) := by decide +kernel
theorem dX4_crossSum_46 : decode cX4_crossSum 46 = .ok (.goto (-41), 3) := by decide +kernel
theorem dX4_crossSum_49 : decode cX4_crossSum 49 = .ok (.lload_n 3, 1) := by decide +kernel
theorem dX4_crossSum_50 : decode cX4_crossSum 50 = .ok (.lreturn, 1) := by decide +kernel
theorem dX4_plateCount_0 : decode cX4_plateCount 0 = .ok (.iconst 0, 1) := by decide +kernel
theorem dX4_plateCount_1 : decode cX4_plateCount 1 = .ok (.istore_n 1, 1) := by decide +kernel
theorem dX4_plateCount_2 : decode cX4_plateCount 2 = .ok (.iconst 0, 1) := by decide +kernel
theorem dX4_plateCount_3 : decode cX4_plateCount 3 = .ok (.istore_n 2, 1) := by decide +kernel
theorem dX4_plateCount_4 : decode cX4_plateCount 4 = .ok (.iload_n 2, 1) := by decide +kernel
theorem dX4_plateCount_5 : decode cX4_plateCount 5 = .ok (.bipush 6, 2) := by decide +kernel
theorem dX4_plateCount_7 : decode cX4_plateCount 7 = .ok (.if_icmp .ge 24, 3) := by decide +kernel
theorem dX4_plateCount_10 : decode cX4_plateCount 10 = .ok (.aload_n 0, 1) := by decide +kernel
theorem dX4_plateCount_11 : decode cX4_plateCount 11 = .ok (.getfield 11, 3) := by decide +kernel
theorem dX4_plateCount_14 : decode cX4_plateCount 14 = .ok (.iload_n 2, 1) := by decide +kernel
theorem dX4_plateCount_15 : decode cX4_plateCount 15 = .ok (.aaload, 1) := by decide +kernel
theorem dX4_plateCount_16 : decode cX4_plateCount 16 = .ok (.getfield 71, 3) := by decide +kernel
theorem dX4_plateCount_19 : decode cX4_plateCount 19 = .ok (.ifCond .ne 6, 3) := by decide +kernel
theorem dX4_plateCount_22 : decode cX4_plateCount 22 = .ok (.iinc 1 1, 3) := by decide +kernel
theorem dX4_plateCount_25 : decode cX4_plateCount 25 = .ok (.iinc 2 1, 3) := by decide +kernel
theorem dX4_plateCount_28 : decode cX4_plateCount 28 = .ok (.goto (-24), 3) := by decide +kernel
theorem dX4_plateCount_31 : decode cX4_plateCount 31 = .ok (.iload_n 1, 1) := by decide +kernel
theorem dX4_plateCount_32 : decode cX4_plateCount 32 = .ok (.ireturn, 1) := by decide +kernel
theorem dX4_badCount_0 : decode cX4_badCount 0 = .ok (.iconst 0, 1) := by decide +kernel
theorem dX4_badCount_1 : decode cX4_badCount 1 = .ok (.istore_n 1, 1) := by decide +kernel
theorem dX4_badCount_2 : decode cX4_badCount 2 = .ok (.iconst 0, 1) := by decide +kernel
theorem dX4_badCount_3 : decode cX4_badCount 3 = .ok (.istore_n 2, 1) := by decide +kernel
theorem dX4_badCount_4 : decode cX4_badCount 4 = .ok (.iload_n 2, 1) := by decide +kernel
theorem dX4_badCount_5 : decode cX4_badCount 5 = .ok (.aload_n 0, 1) := by decide +kernel
theorem dX4_badCount_6 : decode cX4_badCount 6 = .ok (.getfield 15, 3) := by decide +kernel
theorem dX4_badCount_9 : decode cX4_badCount 9 = .ok (.arraylength, 1) := by decide +kernel
theorem dX4_badCount_10 : decode cX4_badCount 10 = .ok (.if_icmp .ge 21, 3) := by decide +kernel
theorem dX4_badCount_13 : decode cX4_badCount 13 = .ok (.aload_n 0, 1) := by decide +kernel
theorem dX4_badCount_14 : decode cX4_badCount 14 = .ok (.getfield 15, 3) := by decide +kernel
theorem dX4_badCount_17 : decode cX4_badCount 17 = .ok (.iload_n 2, 1) := by decide +kernel
theorem dX4_badCount_18 : decode cX4_badCount 18 = .ok (.baload, 1) := by decide +kernel
theorem dX4_badCount_19 : decode cX4_badCount 19 = .ok (.ifCond .eq 6, 3) := by decide +kernel
theorem dX4_badCount_22 : decode cX4_badCount 22 = .ok (.iinc 1 1, 3) := by decide +kernel
theorem dX4_badCount_25 : decode cX4_badCount 25 = .ok (.iinc 2 1, 3) := by decide +kernel
theorem dX4_badCount_28 : decode cX4_badCount 28 = .ok (.goto (-24), 3) := by decide +kernel
theorem dX4_badCount_31 : decode cX4_badCount 31 = .ok (.iload_n 1, 1) := by decide +kernel
theorem dX4_badCount_32 : decode cX4_badCount 32 = .ok (.ireturn, 1) := by decide +kernel
theorem dX4_lawCount_0 : decode cX4_lawCount 0 = .ok (.iconst 0, 1) := by decide +kernel
theorem dX4_lawCount_1 : decode cX4_lawCount 1 = .ok (.istore_n 1, 1) := by decide +kernel
theorem dX4_lawCount_2 : decode cX4_lawCount 2 = .ok (.iconst 0, 1) := by decide +kernel
theorem dX4_lawCount_3 : decode cX4_lawCount 3 = .ok (.istore_n 2, 1) := by decide +kernel
theorem dX4_lawCount_4 : decode cX4_lawCount 4 = .ok (.iload_n 2, 1) := by decide +kernel
theorem dX4_lawCount_5 : decode cX4_lawCount 5 = .ok (.aload_n 0, 1) := by decide +kernel
theorem dX4_lawCount_6 : decode cX4_lawCount 6 = .ok (.getfield 110, 3) := by decide +kernel
theorem dX4_lawCount_9 : decode cX4_lawCount 9 = .ok (.if_icmp .ge 27, 3) := by decide +kernel
theorem dX4_lawCount_12 : decode cX4_lawCount 12 = .ok (.aload_n 0, 1) := by decide +kernel
theorem dX4_lawCount_13 : decode cX4_lawCount 13 = .ok (.getfield 21, 3) := by decide +kernel
theorem dX4_lawCount_16 : decode cX4_lawCount 16 = .ok (.iload_n 2, 1) := by decide +kernel
theorem dX4_lawCount_17 : decode cX4_lawCount 17 = .ok (.aaload, 1) := by decide +kernel
theorem dX4_lawCount_18 : decode cX4_lawCount 18 = .ok (.getfield 151, 3) := by decide +kernel
theorem dX4_lawCount_21 : decode cX4_lawCount 21 = .ok (.getfield 182, 3) := by decide +kernel
theorem dX4_lawCount_24 : decode cX4_lawCount 24 = .ok (.ifCond .eq 6, 3) := by decide +kernel
theorem dX4_lawCount_27 : decode cX4_lawCount 27 = .ok (.iinc 1 1, 3) := by decide +kernel
theorem dX4_lawCount_30 : decode cX4_lawCount 30 = .ok (.iinc 2 1, 3) := by decide +kernel
theorem dX4_lawCount_33 : decode cX4_lawCount 33 = .ok (.goto (-29), 3) := by decide +kernel
theorem dX4_lawCount_36 : decode cX4_lawCount 36 = .ok (.iload_n 1, 1) := by decide +kernel
theorem dX4_lawCount_37 : decode cX4_lawCount 37 = .ok (.ireturn, 1) := by decide +kernel
theorem dX4_mix_0 : decode cX4_mix 0 = .ok (.ldc2_w 318, 3) := by decide +kernel
theorem dX4_mix_3 : decode cX4_mix 3 = .ok (.lload_n 0, 1) := by decide +kernel
theorem dX4_mix_4 : decode cX4_mix 4 = .ok (.lmul, 1) := by decide +kernel
theorem dX4_mix_5 : decode cX4_mix 5 = .ok (.lload_n 2, 1) := by decide +kernel
theorem dX4_mix_6 : decode cX4_mix 6 = .ok (.ladd, 1) := by decide +kernel
theorem dX4_mix_7 : decode cX4_mix 7 = .ok (.lreturn, 1) := by decide +kernel
theorem dX4_digestPlate_0 : decode cX4_digestPlate 0 = .ok (.aload_n 2, 1) := by decide +kernel
theorem dX4_digestPlate_1 : decode cX4_digestPlate 1 = .ok (.getfield 71, 3) := by decide +kernel
theorem dX4_digestPlate_4 : decode cX4_digestPlate 4 = .ok (.ifCond .eq 11, 3) := by decide +kernel
theorem dX4_digestPlate_7 : decode cX4_digestPlate 7 = .ok (.lload_n 0, 1) := by decide +kernel
theorem dX4_digestPlate_8 : decode cX4_digestPlate 8 = .ok (.ldc2_w 165, 3) := by decide +kernel
theorem dX4_digestPlate_11 : decode cX4_digestPlate 11 = .ok (.invokestatic 234, 3) := by decide +kernel
theorem dX4_digestPlate_14 : decode cX4_digestPlate 14 = .ok (.lreturn, 1) := by decide +kernel
theorem dX4_digestPlate_15 : decode cX4_digestPlate 15 = .ok (.lload_n 0, 1) := by decide +kernel
theorem dX4_digestPlate_16 : decode cX4_digestPlate 16 = .ok (.aload_n 2, 1) := by decide +kernel
theorem dX4_digestPlate_17 : decode cX4_digestPlate 17 = .ok (.getfield 75, 3) := by decide +kernel
theorem dX4_digestPlate_20 : decode cX4_digestPlate 20 = .ok (.i2l, 1) := by decide +kernel
theorem dX4_digestPlate_21 : decode cX4_digestPlate 21 = .ok (.invokestatic 234, 3) := by decide +kernel
theorem dX4_digestPlate_24 : decode cX4_digestPlate 24 = .ok (.aload_n 2, 1) := by decide +kernel
theorem dX4_digestPlate_25 : decode cX4_digestPlate 25 = .ok (.getfield 93, 3) := by decide +kernel
theorem dX4_digestPlate_28 : decode cX4_digestPlate 28 = .ok (.i2l, 1) := by decide +kernel
theorem dX4_digestPlate_29 : decode cX4_digestPlate 29 = .ok (.invokestatic 234, 3) := by decide +kernel
theorem dX4_digestPlate_32 : decode cX4_digestPlate 32 = .ok (.aload_n 2, 1) := by decide +kernel
theorem dX4_digestPlate_33 : decode cX4_digestPlate 33 = .ok (.getfield 90, 3) := by decide +kernel
theorem dX4_digestPlate_36 : decode cX4_digestPlate 36 = .ok (.i2l, 1) := by decide +kernel
theorem dX4_digestPlate_37 : decode cX4_digestPlate 37 = .ok (.invokestatic 234, 3) := by decide +kernel
theorem dX4_digestPlate_40 : decode cX4_digestPlate 40 = .ok (.lstore_n 3, 1) := by decide +kernel
theorem dX4_digestPlate_41 : decode cX4_digestPlate 41 = .ok (.iconst 0, 1) := by decide +kernel
theorem dX4_digestPlate_42 : decode cX4_digestPlate 42 = .ok (.istore 5, 2) := by decide +kernel
theorem dX4_digestPlate_44 : decode cX4_digestPlate 44 = .ok (.iload 5, 2) := by decide +kernel
theorem dX4_digestPlate_46 : decode cX4_digestPlate 46 = .ok (.aload_n 2, 1) := by decide +kernel
theorem dX4_digestPlate_47 : decode cX4_digestPlate 47 = .ok (.getfield 90, 3) := by decide +kernel
theorem dX4_digestPlate_50 : decode cX4_digestPlate 50 = .ok (.if_icmp .ge 41, 3) := by decide +kernel
theorem dX4_digestPlate_53 : decode cX4_digestPlate 53 = .ok (.iconst 0, 1) := by decide +kernel
theorem dX4_digestPlate_54 : decode cX4_digestPlate 54 = .ok (.istore 6, 2) := by decide +kernel
theorem dX4_digestPlate_56 : decode cX4_digestPlate 56 = .ok (.iload 6, 2) := by decide +kernel
theorem dX4_digestPlate_58 : decode cX4_digestPlate 58 = .ok (.aload_n 2, 1) := by decide +kernel
theorem dX4_digestPlate_59 : decode cX4_digestPlate 59 = .ok (.getfield 93, 3) := by decide +kernel
theorem dX4_digestPlate_62 : decode cX4_digestPlate 62 = .ok (.if_icmp .ge 23, 3) := by decide +kernel
theorem dX4_digestPlate_65 : decode cX4_digestPlate 65 = .ok (.lload_n 3, 1) := by decide +kernel
theorem dX4_digestPlate_66 : decode cX4_digestPlate 66 = .ok (.aload_n 2, 1) := by decide +kernel
theorem dX4_digestPlate_67 : decode cX4_digestPlate 67 = .ok (.iload 6, 2) := by decide +kernel
theorem dX4_digestPlate_69 : decode cX4_digestPlate 69 = .ok (.iload 5, 2) := by decide +kernel
theorem dX4_digestPlate_71 : decode cX4_digestPlate 71 = .ok (.invokevirtual 96, 3) := by decide +kernel
theorem dX4_digestPlate_74 : decode cX4_digestPlate 74 = .ok (.i2l, 1) := by decide +kernel
theorem dX4_digestPlate_75 : decode cX4_digestPlate 75 = .ok (.invokestatic 234, 3) := by decide +kernel
theorem dX4_digestPlate_78 : decode cX4_digestPlate 78 = .ok (.lstore_n 3, 1) := by decide +kernel
theorem dX4_digestPlate_79 : decode cX4_digestPlate 79 = .ok (.iinc 6 1, 3) := by decide +kernel
theorem dX4_digestPlate_82 : decode cX4_digestPlate 82 = .ok (.goto (-26), 3) := by decide +kernel
theorem dX4_digestPlate_85 : decode cX4_digestPlate 85 = .ok (.iinc 5 1, 3) := by decide +kernel
theorem dX4_digestPlate_88 : decode cX4_digestPlate 88 = .ok (.goto (-44), 3) := by decide +kernel
theorem dX4_digestPlate_91 : decode cX4_digestPlate 91 = .ok (.lload_n 3, 1) := by decide +kernel
theorem dX4_digestPlate_92 : decode cX4_digestPlate 92 = .ok (.lreturn, 1) := by decide +kernel
theorem dX4_digestComb_0 : decode cX4_digestComb 0 = .ok (.lload_n 0, 1) := by decide +kernel
theorem dX4_digestComb_1 : decode cX4_digestComb 1 = .ok (.lstore_n 3, 1) := by decide +kernel
theorem dX4_digestComb_2 : decode cX4_digestComb 2 = .ok (.iconst 0, 1) := by decide +kernel
theorem dX4_digestComb_3 : decode cX4_digestComb 3 = .ok (.istore 5, 2) := by decide +kernel
theorem dX4_digestComb_5 : decode cX4_digestComb 5 = .ok (.iload 5, 2) := by decide +kernel
theorem dX4_digestComb_7 : decode cX4_digestComb 7 = .ok (.bipush 8, 2) := by decide +kernel
theorem dX4_digestComb_9 : decode cX4_digestComb 9 = .ok (.if_icmp .ge 21, 3) := by decide +kernel
theorem dX4_digestComb_12 : decode cX4_digestComb 12 = .ok (.lload_n 3, 1) := by decide +kernel
theorem dX4_digestComb_13 : decode cX4_digestComb 13 = .ok (.aload_n 2, 1) := by decide +kernel
theorem dX4_digestComb_14 : decode cX4_digestComb 14 = .ok (.iload 5, 2) := by decide +kernel
theorem dX4_digestComb_16 : decode cX4_digestComb 16 = .ok (.invokestatic 126, 3) := by decide +kernel
theorem dX4_digestComb_19 : decode cX4_digestComb 19 = .ok (.i2l, 1) := by decide +kernel
theorem dX4_digestComb_20 : decode cX4_digestComb 20 = .ok (.invokestatic 234, 3) := by decide +kernel
theorem dX4_digestComb_23 : decode cX4_digestComb 23 = .ok (.lstore_n 3, 1) := by decide +kernel
theorem dX4_digestComb_24 : decode cX4_digestComb 24 = .ok (.iinc 5 1, 3) := by decide +kernel
theorem dX4_digestComb_27 : decode cX4_digestComb 27 = .ok (.goto (-22), 3) := by decide +kernel
theorem dX4_digestComb_30 : decode cX4_digestComb 30 = .ok (.iconst 0, 1) := by decide +kernel
theorem dX4_digestComb_31 : decode cX4_digestComb 31 = .ok (.istore 5, 2) := by decide +kernel
theorem dX4_digestComb_33 : decode cX4_digestComb 33 = .ok (.iload 5, 2) := by decide +kernel
theorem dX4_digestComb_35 : decode cX4_digestComb 35 = .ok (.aload_n 2, 1) := by decide +kernel
theorem dX4_digestComb_36 : decode cX4_digestComb 36 = .ok (.getfield 141, 3) := by decide +kernel
theorem dX4_digestComb_39 : decode cX4_digestComb 39 = .ok (.if_icmp .ge 20, 3) := by decide +kernel
theorem dX4_digestComb_42 : decode cX4_digestComb 42 = .ok (.lload_n 3, 1) := by decide +kernel
theorem dX4_digestComb_43 : decode cX4_digestComb 43 = .ok (.aload_n 2, 1) := by decide +kernel
theorem dX4_digestComb_44 : decode cX4_digestComb 44 = .ok (.iload 5, 2) := by decide +kernel
theorem dX4_digestComb_46 : decode cX4_digestComb 46 = .ok (.invokevirtual 162, 3) := by decide +kernel
theorem dX4_digestComb_49 : decode cX4_digestComb 49 = .ok (.invokestatic 234, 3) := by decide +kernel
theorem dX4_digestComb_52 : decode cX4_digestComb 52 = .ok (.lstore_n 3, 1) := by decide +kernel
theorem dX4_digestComb_53 : decode cX4_digestComb 53 = .ok (.iinc 5 1, 3) := by decide +kernel
theorem dX4_digestComb_56 : decode cX4_digestComb 56 = .ok (.goto (-23), 3) := by decide +kernel
theorem dX4_digestComb_59 : decode cX4_digestComb 59 = .ok (.lload_n 3, 1) := by decide +kernel
theorem dX4_digestComb_60 : decode cX4_digestComb 60 = .ok (.lreturn, 1) := by decide +kernel
end
section
theorem dL_law_0 : decode cL_law 0 = .ok (.new 7, 3) := by decide +kernel
theorem dL_law_3 : decode cL_law 3 = .ok (.dup, 1) := by decide +kernel
theorem dL_law_4 : decode cL_law 4 = .ok (.invokespecial 9, 3) := by decide +kernel
theorem dL_law_7 : decode cL_law 7 = .ok (.astore_n 1, 1) := by decide +kernel
theorem dL_law_8 : decode cL_law 8 = .ok (.new 10, 3) := by decide +kernel
theorem dL_law_11 : decode cL_law 11 = .ok (.dup, 1) := by decide +kernel
theorem dL_law_12 : decode cL_law 12 = .ok (.invokespecial 12, 3) := by decide +kernel
theorem dL_law_15 : decode cL_law 15 = .ok (.astore_n 2, 1) := by decide +kernel
theorem dL_law_16 : decode cL_law 16 = .ok (.iconst 0, 1) := by decide +kernel
theorem dL_law_17 : decode cL_law 17 = .ok (.istore_n 3, 1) := by decide +kernel
theorem dL_law_18 : decode cL_law 18 = .ok (.iload_n 3, 1) := by decide +kernel
theorem dL_law_19 : decode cL_law 19 = .ok (.aload_n 0, 1) := by decide +kernel
theorem dL_law_20 : decode cL_law 20 = .ok (.arraylength, 1) := by decide +kernel
theorem dL_law_21 : decode cL_law 21 = .ok (.bipush 6, 2) := by decide +kernel
theorem dL_law_23 : decode cL_law 23 = .ok (.isub, 1) := by decide +kernel
theorem dL_law_24 : decode cL_law 24 = .ok (.if_icmp .gt 1253, 3) := by decide +kernel
theorem dL_law_27 : decode cL_law 27 = .ok (.aload_n 0, 1) := by decide +kernel
theorem dL_law_28 : decode cL_law 28 = .ok (.iload_n 3, 1) := by decide +kernel
theorem dL_law_29 : decode cL_law 29 = .ok (.iaload, 1) := by decide +kernel
theorem dL_law_30 : decode cL_law 30 = .ok (.bipush 31, 2) := by decide +kernel
theorem dL_law_32 : decode cL_law 32 = .ok (.iand, 1) := by decide +kernel
theorem dL_law_33 : decode cL_law 33 = .ok (.tableswitch 1238 0 28 #[131, 184, 247, 280, 313, 336, 395, 438, 481, 514, 567, 600, 653, 687, 750, 823, 846, 859, 932, 975, 1008, 1051, 1075, 1119, 1152, 1165, 1178, 1201, 1224], 131) := by decide +kernel
theorem dL_law_164 : decode cL_law 164 = .ok (.aload_n 1, 1) := by decide +kernel
theorem dL_law_165 : decode cL_law 165 = .ok (.aload_n 0, 1) := by decide +kernel
theorem dL_law_166 : decode cL_law 166 = .ok (.iload_n 3, 1) := by decide +kernel
theorem dL_law_167 : decode cL_law 167 = .ok (.iconst 1, 1) := by decide +kernel
theorem dL_law_168 : decode cL_law 168 = .ok (.iadd, 1) := by decide +kernel
theorem dL_law_169 : decode cL_law 169 = .ok (.iaload, 1) := by decide +kernel
theorem dL_law_170 : decode cL_law 170 = .ok (.aload_n 0, 1) := by decide +kernel
theorem dL_law_171 : decode cL_law 171 = .ok (.iload_n 3, 1) := by decide +kernel
theorem dL_law_172 : decode cL_law 172 = .ok (.iconst 2, 1) := by decide +kernel
theorem dL_law_173 : decode cL_law 173 = .ok (.iadd, 1) := by decide +kernel
theorem dL_law_174 : decode cL_law 174 = .ok (.iaload, 1) := by decide +kernel
theorem dL_law_175 : decode cL_law 175 = .ok (.aload_n 0, 1) := by decide +kernel
theorem dL_law_176 : decode cL_law 176 = .ok (.iload_n 3, 1) := by decide +kernel
theorem dL_law_177 : decode cL_law 177 = .ok (.iconst 3, 1) := by decide +kernel
theorem dL_law_178 : decode cL_law 178 = .ok (.iadd, 1) := by decide +kernel
theorem dL_law_179 : decode cL_law 179 = .ok (.iaload, 1) := by decide +kernel
theorem dL_law_180 : decode cL_law 180 = .ok (.aload_n 0, 1) := by decide +kernel
theorem dL_law_181 : decode cL_law 181 = .ok (.iload_n 3, 1) := by decide +kernel
theorem dL_law_182 : decode cL_law 182 = .ok (.iconst 4, 1) := by decide +kernel
theorem dL_law_183 : decode cL_law 183 = .ok (.iadd, 1) := by decide +kernel
theorem dL_law_184 : decode cL_law 184 = .ok (.iaload, 1) := by decide +kernel
theorem dL_law_185 : decode cL_law 185 = .ok (.invokevirtual 13, 3) := by decide +kernel
theorem dL_law_188 : decode cL_law 188 = .ok (.aload_n 2, 1) := by decide +kernel
theorem dL_law_189 : decode cL_law 189 = .ok (.aload_n 0, 1) := by decide +kernel
theorem dL_law_190 : decode cL_law 190 = .ok (.iload_n 3, 1) := by decide +kernel
theorem dL_law_191 : decode cL_law 191 = .ok (.iconst 1, 1) := by decide +kernel
theorem dL_law_192 : decode cL_law 192 = .ok (.iadd, 1) := by decide +kernel
theorem dL_law_193 : decode cL_law 193 = .ok (.iaload, 1) := by decide +kernel
theorem dL_law_194 : decode cL_law 194 = .ok (.aload_n 0, 1) := by decide +kernel
theorem dL_law_195 : decode cL_law 195 = .ok (.iload_n 3, 1) := by decide +kernel
theorem dL_law_196 : decode cL_law 196 = .ok (.iconst 2, 1) := by decide +kernel
theorem dL_law_197 : decode cL_law 197 = .ok (.iadd, 1) := by decide +kernel
theorem dL_law_198 : decode cL_law 198 = .ok (.iaload, 1) := by decide +kernel
theorem dL_law_199 : decode cL_law 199 = .ok (.aload_n 0, 1) := by decide +kernel
theorem dL_law_200 : decode cL_law 200 = .ok (.iload_n 3, 1) := by decide +kernel
theorem dL_law_201 : decode cL_law 201 = .ok (.iconst 3, 1) := by decide +kernel
theorem dL_law_202 : decode cL_law 202 = .ok (.iadd, 1) := by decide +kernel
theorem dL_law_203 : decode cL_law 203 = .ok (.iaload, 1) := by decide +kernel
theorem dL_law_204 : decode cL_law 204 = .ok (.aload_n 0, 1) := by decide +kernel
theorem dL_law_205 : decode cL_law 205 = .ok (.iload_n 3, 1) := by decide +kernel
theorem dL_law_206 : decode cL_law 206 = .ok (.iconst 4, 1) := by decide +kernel
theorem dL_law_207 : decode cL_law 207 = .ok (.iadd, 1) := by decide +kernel
theorem dL_law_208 : decode cL_law 208 = .ok (.iaload, 1) := by decide +kernel
theorem dL_law_209 : decode cL_law 209 = .ok (.invokevirtual 17, 3) := by decide +kernel
theorem dL_law_212 : decode cL_law 212 = .ok (.if_icmp .eq 1059, 3) := by decide +kernel
theorem dL_law_215 : decode cL_law 215 = .ok (.iconst 0, 1) := by decide +kernel
theorem dL_law_216 : decode cL_law 216 = .ok (.ireturn, 1) := by decide +kernel
theorem dL_law_217 : decode cL_law 217 = .ok (.aload_n 1, 1) := by decide +kernel
theorem dL_law_218 : decode cL_law 218 = .ok (.aload_n 0, 1) := by decide +kernel
theorem dL_law_219 : decode cL_law 219 = .ok (.iload_n 3, 1) := by decide +kernel
theorem dL_law_220 : decode cL_law 220 = .ok (.iconst 1, 1) := by decide +kernel
theorem dL_law_221 : decode cL_law 221 = .ok (.iadd, 1) := by decide +kernel
theorem dL_law_222 : decode cL_law 222 = .ok (.iaload, 1) := by decide +kernel
theorem dL_law_223 : decode cL_law 223 = .ok (.aload_n 0, 1) := by decide +kernel
theorem dL_law_224 : decode cL_law 224 = .ok (.iload_n 3, 1) := by decide +kernel
theorem dL_law_225 : decode cL_law 225 = .ok (.iconst 2, 1) := by decide +kernel
theorem dL_law_226 : decode cL_law 226 = .ok (.iadd, 1) := by decide +kernel
theorem dL_law_227 : decode cL_law 227 = .ok (.iaload, 1) := by decide +kernel
theorem dL_law_228 : decode cL_law 228 = .ok (.aload_n 0, 1) := by decide +kernel
theorem dL_law_229 : decode cL_law 229 = .ok (.iload_n 3, 1) := by decide +kernel
theorem dL_law_230 : decode cL_law 230 = .ok (.iconst 3, 1) := by decide +kernel
theorem dL_law_231 : decode cL_law 231 = .ok (.iadd, 1) := by decide +kernel
theorem dL_law_232 : decode cL_law 232 = .ok (.iaload, 1) := by decide +kernel
theorem dL_law_233 : decode cL_law 233 = .ok (.aload_n 0, 1) := by decide +kernel
theorem dL_law_234 : decode cL_law 234 = .ok (.iload_n 3, 1) := by decide +kernel
theorem dL_law_235 : decode cL_law 235 = .ok (.iconst 4, 1) := by decide +kernel
theorem dL_law_236 : decode cL_law 236 = .ok (.iadd, 1) := by decide +kernel
theorem dL_law_237 : decode cL_law 237 = .ok (.iaload, 1) := by decide +kernel
theorem dL_law_238 : decode cL_law 238 = .ok (.aload_n 0, 1) := by decide +kernel
theorem dL_law_239 : decode cL_law 239 = .ok (.iload_n 3, 1) := by decide +kernel
theorem dL_law_240 : decode cL_law 240 = .ok (.iconst 5, 1) := by decide +kernel
theorem dL_law_241 : decode cL_law 241 = .ok (.iadd, 1) := by decide +kernel
theorem dL_law_242 : decode cL_law 242 = .ok (.iaload, 1) := by decide +kernel
theorem dL_law_243 : decode cL_law 243 = .ok (.invokevirtual 18, 3) := by decide +kernel
theorem dL_law_246 : decode cL_law 246 = .ok (.aload_n 2, 1) := by decide +kernel
theorem dL_law_247 : decode cL_law 247 = .ok (.aload_n 0, 1) := by decide +kernel
theorem dL_law_248 : decode cL_law 248 = .ok (.iload_n 3, 1) := by decide +kernel
theorem dL_law_249 : decode cL_law 249 = .ok (.iconst 1, 1) := by decide +kernel
theorem dL_law_250 : decode cL_law 250 = .ok (.iadd, 1) := by decide +kernel
theorem dL_law_251 : decode cL_law 251 = .ok (.iaload, 1) := by decide +kernel
theorem dL_law_252 : decode cL_law 252 = .ok (.aload_n 0, 1) := by decide +kernel
theorem dL_law_253 : decode cL_law 253 = .ok (.iload_n 3, 1) := by decide +kernel
theorem dL_law_254 : decode cL_law 254 = .ok (.iconst 2, 1) := by decide +kernel
theorem dL_law_255 : decode cL_law 255 = .ok (.iadd, 1) := by decide +kernel
theorem dL_law_256 : decode cL_law 256 = .ok (.iaload, 1) := by decide +kernel
theorem dL_law_257 : decode cL_law 257 = .ok (.aload_n 0, 1) := by decide +kernel
theorem dL_law_258 : decode cL_law 258 = .ok (.iload_n 3, 1) := by decide +kernel
theorem dL_law_259 : decode cL_law 259 = .ok (.iconst 3, 1) := by decide +kernel
theorem dL_law_260 : decode cL_law 260 = .ok (.iadd, 1) := by decide +kernel
theorem dL_law_261 : decode cL_law 261 = .ok (.iaload, 1) := by decide +kernel
theorem dL_law_262 : decode cL_law 262 = .ok (.aload_n 0, 1) := by decide +kernel
theorem dL_law_263 : decode cL_law 263 = .ok (.iload_n 3, 1) := by decide +kernel
theorem dL_law_264 : decode cL_law 264 = .ok (.iconst 4, 1) := by decide +kernel
theorem dL_law_265 : decode cL_law 265 = .ok (.iadd, 1) := by decide +kernel
theorem dL_law_266 : decode cL_law 266 = .ok (.iaload, 1) := by decide +kernel
theorem dL_law_267 : decode cL_law 267 = .ok (.aload_n 0, 1) := by decide +kernel
theorem dL_law_268 : decode cL_law 268 = .ok (.iload_n 3, 1) := by decide +kernel
theorem dL_law_269 : decode cL_law 269 = .ok (.iconst 5, 1) := by decide +kernel
theorem dL_law_270 : decode cL_law 270 = .ok (.iadd, 1) := by decide +kernel
theorem dL_law_271 : decode cL_law 271 = .ok (.iaload, 1) := by decide +kernel
theorem dL_law_272 : decode cL_law 272 = .ok (.invokevirtual 22, 3) := by decide +kernel
theorem dL_law_275 : decode cL_law 275 = .ok (.if_icmp .eq 996, 3) := by decide +kernel
theorem dL_law_278 : decode cL_law 278 = .ok (.iconst 0, 1) := by decide +kernel
theorem dL_law_279 : decode cL_law 279 = .ok (.ireturn, 1) := by decide +kernel
theorem dL_law_280 : decode cL_law 280 = .ok (.aload_n 1, 1) := by decide +kernel
theorem dL_law_281 : decode cL_law 281 = .ok (.aload_n 0, 1) := by decide +kernel
theorem dL_law_282 : decode cL_law 282 = .ok (.iload_n 3, 1) := by decide +kernel
theorem dL_law_283 : decode cL_law 283 = .ok (.iconst 1, 1) := by decide +kernel
theorem dL_law_284 : decode cL_law 284 = .ok (.iadd, 1) := by decide +kernel
theorem dL_law_285 : decode cL_law 285 = .ok (.iaload, 1) := by decide +kernel
theorem dL_law_286 : decode cL_law 286 = .ok (.aload_n 0, 1) := by decide +kernel
theorem dL_law_287 : decode cL_law 287 = .ok (.iload_n 3, 1) := by decide +kernel
theorem dL_law_288 : decode cL_law 288 = .ok (.iconst 2, 1) := by decide +kernel
theorem dL_law_289 : decode cL_law 289 = .ok (.iadd, 1) := by decide +kernel
theorem dL_law_290 : decode cL_law 290 = .ok (.iaload, 1) := by decide +kernel
theorem dL_law_291 : decode cL_law 291 = .ok (.invokevirtual 23, 3) := by decide +kernel
theorem dL_law_294 : decode cL_law 294 = .ok (.aload_n 2, 1) := by decide +kernel
theorem dL_law_295 : decode cL_law 295 = .ok (.aload_n 0, 1) := by decide +kernel
theorem dL_law_296 : decode cL_law 296 = .ok (.iload_n 3, 1) := by decide +kernel
theorem dL_law_297 : decode cL_law 297 = .ok (.iconst 1, 1) := by decide +kernel
theorem dL_law_298 : decode cL_law 298 = .ok (.iadd, 1) := by decide +kernel
theorem dL_law_299 : decode cL_law 299 = .ok (.iaload, 1) := by decide +kernel
theorem dL_law_300 : decode cL_law 300 = .ok (.aload_n 0, 1) := by decide +kernel
theorem dL_law_301 : decode cL_law 301 = .ok (.iload_n 3, 1) := by decide +kernel
theorem dL_law_302 : decode cL_law 302 = .ok (.iconst 2, 1) := by decide +kernel
theorem dL_law_303 : decode cL_law 303 = .ok (.iadd, 1) := by decide +kernel
theorem dL_law_304 : decode cL_law 304 = .ok (.iaload, 1) := by decide +kernel
theorem dL_law_305 : decode cL_law 305 = .ok (.invokevirtual 27, 3) := by decide +kernel
theorem dL_law_308 : decode cL_law 308 = .ok (.if_icmp .eq 963, 3) := by decide +kernel
theorem dL_law_311 : decode cL_law 311 = .ok (.iconst 0, 1) := by decide +kernel
theorem dL_law_312 : decode cL_law 312 = .ok (.ireturn, 1) := by decide +kernel
theorem dL_law_313 : decode cL_law 313 = .ok (.aload_n 1, 1) := by decide +kernel
theorem dL_law_314 : decode cL_law 314 = .ok (.aload_n 0, 1) := by decide +kernel
theorem dL_law_315 : decode cL_law 315 = .ok (.iload_n 3, 1) := by decide +kernel
theorem dL_law_316 : decode cL_law 316 = .ok (.iconst 1, 1) := by decide +kernel
theorem dL_law_317 : decode cL_law 317 = .ok (.iadd, 1) := by decide +kernel
theorem dL_law_318 : decode cL_law 318 = .ok (.iaload, 1) := by decide +kernel
theorem dL_law_319 : decode cL_law 319 = .ok (.aload_n 0, 1) := by decide +kernel
theorem dL_law_320 : decode cL_law 320 = .ok (.iload_n 3, 1) := by decide +kernel
theorem dL_law_321 : decode cL_law 321 = .ok (.iconst 2, 1) := by decide +kernel
theorem dL_law_322 : decode cL_law 322 = .ok (.iadd, 1) := by decide +kernel
theorem dL_law_323 : decode cL_law 323 = .ok (.iaload, 1) := by decide +kernel
theorem dL_law_324 : decode cL_law 324 = .ok (.invokevirtual 28, 3) := by decide +kernel
theorem dL_law_327 : decode cL_law 327 = .ok (.aload_n 2, 1) := by decide +kernel
theorem dL_law_328 : decode cL_law 328 = .ok (.aload_n 0, 1) := by decide +kernel
theorem dL_law_329 : decode cL_law 329 = .ok (.iload_n 3, 1) := by decide +kernel
theorem dL_law_330 : decode cL_law 330 = .ok (.iconst 1, 1) := by decide +kernel
theorem dL_law_331 : decode cL_law 331 = .ok (.iadd, 1) := by decide +kernel
theorem dL_law_332 : decode cL_law 332 = .ok (.iaload, 1) := by decide +kernel
theorem dL_law_333 : decode cL_law 333 = .ok (.aload_n 0, 1) := by decide +kernel
theorem dL_law_334 : decode cL_law 334 = .ok (.iload_n 3, 1) := by decide +kernel
theorem dL_law_335 : decode cL_law 335 = .ok (.iconst 2, 1) := by decide +kernel
theorem dL_law_336 : decode cL_law 336 = .ok (.iadd, 1) := by decide +kernel
theorem dL_law_337 : decode cL_law 337 = .ok (.iaload, 1) := by decide +kernel
theorem dL_law_338 : decode cL_law 338 = .ok (.invokevirtual 31, 3) := by decide +kernel
theorem dL_law_341 : decode cL_law 341 = .ok (.if_icmp .eq 930, 3) := by decide +kernel
theorem dL_law_344 : decode cL_law 344 = .ok (.iconst 0, 1) := by decide +kernel
theorem dL_law_345 : decode cL_law 345 = .ok (.ireturn, 1) := by decide +kernel
theorem dL_law_346 : decode cL_law 346 = .ok (.aload_n 1, 1) := by decide +kernel
theorem dL_law_347 : decode cL_law 347 = .ok (.aload_n 0, 1) := by decide +kernel
theorem dL_law_348 : decode cL_law 348 = .ok (.iload_n 3, 1) := by decide +kernel
theorem dL_law_349 : decode cL_law 349 = .ok (.iconst 1, 1) := by decide +kernel
theorem dL_law_350 : decode cL_law 350 = .ok (.iadd, 1) := by decide +kernel
theorem dL_law_351 : decode cL_law 351 = .ok (.iaload, 1) := by decide +kernel
theorem dL_law_352 : decode cL_law 352 = .ok (.invokevirtual 32, 3) := by decide +kernel
theorem dL_law_355 : decode cL_law 355 = .ok (.aload_n 2, 1) := by decide +kernel
theorem dL_law_356 : decode cL_law 356 = .ok (.aload_n 0, 1) := by decide +kernel
theorem dL_law_357 : decode cL_law 357 = .ok (.iload_n 3, 1) := by decide +kernel
theorem dL_law_358 : decode cL_law 358 = .ok (.iconst 1, 1) := by decide +kernel
theorem dL_law_359 : decode cL_law 359 = .ok (.iadd, 1) := by decide +kernel
theorem dL_law_360 : decode cL_law 360 = .ok (.iaload, 1) := by decide +kernel
theorem dL_law_361 : decode cL_law 361 = .ok (.invokevirtual 36, 3) := by decide +kernel
theorem dL_law_364 : decode cL_law 364 = .ok (.if_icmp .eq 907, 3) := by decide +kernel
theorem dL_law_367 : decode cL_law 367 = .ok (.iconst 0, 1) := by decide +kernel
theorem dL_law_368 : decode cL_law 368 = .ok (.ireturn, 1) := by decide +kernel
theorem dL_law_369 : decode cL_law 369 = .ok (.aload_n 1, 1) := by decide +kernel
theorem dL_law_370 : decode cL_law 370 = .ok (.aload_n 0, 1) := by decide +kernel
theorem dL_law_371 : decode cL_law 371 = .ok (.iload_n 3, 1) := by decide +kernel
theorem dL_law_372 : decode cL_law 372 = .ok (.iconst 1, 1) := by decide +kernel
theorem dL_law_373 : decode cL_law 373 = .ok (.iadd, 1) := by decide +kernel
theorem dL_law_374 : decode cL_law 374 = .ok (.iaload, 1) := by decide +kernel
theorem dL_law_375 : decode cL_law 375 = .ok (.aload_n 0, 1) := by decide +kernel
theorem dL_law_376 : decode cL_law 376 = .ok (.iload_n 3, 1) := by decide +kernel
theorem dL_law_377 : decode cL_law 377 = .ok (.iconst 2, 1) := by decide +kernel
theorem dL_law_378 : decode cL_law 378 = .ok (.iadd, 1) := by decide +kernel
theorem dL_law_379 : decode cL_law 379 = .ok (.iaload, 1) := by decide +kernel
theorem dL_law_380 : decode cL_law 380 = .ok (.aload_n 0, 1) := by decide +kernel
theorem dL_law_381 : decode cL_law 381 = .ok (.iload_n 3, 1) := by decide +kernel
theorem dL_law_382 : decode cL_law 382 = .ok (.iconst 3, 1) := by decide +kernel
theorem dL_law_383 : decode cL_law 383 = .ok (.iadd, 1) := by decide +kernel
theorem dL_law_384 : decode cL_law 384 = .ok (.iaload, 1) := by decide +kernel
theorem dL_law_385 : decode cL_law 385 = .ok (.ifCond .eq 7, 3) := by decide +kernel
theorem dL_law_388 : decode cL_law 388 = .ok (.iconst 1, 1) := by decide +kernel
theorem dL_law_389 : decode cL_law 389 = .ok (.goto 4, 3) := by decide +kernel
theorem dL_law_392 : decode cL_law 392 = .ok (.iconst 0, 1) := by decide +kernel
theorem dL_law_393 : decode cL_law 393 = .ok (.invokevirtual 37, 3) := by decide +kernel
theorem dL_law_396 : decode cL_law 396 = .ok (.aload_n 2, 1) := by decide +kernel
theorem dL_law_397 : decode cL_law 397 = .ok (.aload_n 0, 1) := by decide +kernel
theorem dL_law_398 : decode cL_law 398 = .ok (.iload_n 3, 1) := by decide +kernel
theorem dL_law_399 : decode cL_law 399 = .ok (.iconst 1, 1) := by decide +kernel
theorem dL_law_400 : decode cL_law 400 = .ok (.iadd, 1) := by decide +kernel
theorem dL_law_401 : decode cL_law 401 = .ok (.iaload, 1) := by decide +kernel
theorem dL_law_402 : decode cL_law 402 = .ok (.aload_n 0, 1) := by decide +kernel
theorem dL_law_403 : decode cL_law 403 = .ok (.iload_n 3, 1) := by decide +kernel
theorem dL_law_404 : decode cL_law 404 = .ok (.iconst 2, 1) := by decide +kernel
theorem dL_law_405 : decode cL_law 405 = .ok (.iadd, 1) := by decide +kernel
theorem dL_law_406 : decode cL_law 406 = .ok (.iaload, 1) := by decide +kernel
theorem dL_law_407 : decode cL_law 407 = .ok (.aload_n 0, 1) := by decide +kernel
theorem dL_law_408 : decode cL_law 408 = .ok (.iload_n 3, 1) := by decide +kernel
theorem dL_law_409 : decode cL_law 409 = .ok (.iconst 3, 1) := by decide +kernel
theorem dL_law_410 : decode cL_law 410 = .ok (.iadd, 1) := by decide +kernel
theorem dL_law_411 : decode cL_law 411 = .ok (.iaload, 1) := by decide +kernel
theorem dL_law_412 : decode cL_law 412 = .ok (.ifCond .eq 7, 3) := by decide +kernel
theorem dL_law_415 : decode cL_law 415 = .ok (.iconst 1, 1) := by decide +kernel
theorem dL_law_416 : decode cL_law 416 = .ok (.goto 4, 3) := by decide +kernel
theorem dL_law_419 : decode cL_law 419 = .ok (.iconst 0, 1) := by decide +kernel
theorem dL_law_420 : decode cL_law 420 = .ok (.invokevirtual 41, 3) := by decide +kernel
theorem dL_law_423 : decode cL_law 423 = .ok (.if_icmp .eq 848, 3) := by decide +kernel
theorem dL_law_426 : decode cL_law 426 = .ok (.iconst 0, 1) := by decide +kernel
theorem dL_law_427 : decode cL_law 427 = .ok (.ireturn, 1) := by decide +kernel
theorem dL_law_428 : decode cL_law 428 = .ok (.aload_n 1, 1) := by decide +kernel
theorem dL_law_429 : decode cL_law 429 = .ok (.aload_n 0, 1) := by decide +kernel
theorem dL_law_430 : decode cL_law 430 = .ok (.iload_n 3, 1) := by decide +kernel
theorem dL_law_431 : decode cL_law 431 = .ok (.iconst 1, 1) := by decide +kernel
theorem dL_law_432 : decode cL_law 432 = .ok (.iadd, 1) := by decide +kernel
theorem dL_law_433 : decode cL_law 433 = .ok (.iaload, 1) := by decide +kernel
theorem dL_law_434 : decode cL_law 434 = .ok (.aload_n 0, 1) := by decide +kernel
theorem dL_law_435 : decode cL_law 435 = .ok (.iload_n 3, 1) := by decide +kernel
theorem dL_law_436 : decode cL_law 436 = .ok (.iconst 2, 1) := by decide +kernel
theorem dL_law_437 : decode cL_law 437 = .ok (.iadd, 1) := by decide +kernel
theorem dL_law_438 : decode cL_law 438 = .ok (.iaload, 1) := by decide +kernel
theorem dL_law_439 : decode cL_law 439 = .ok (.aload_n 0, 1) := by decide +kernel
theorem dL_law_440 : decode cL_law 440 = .ok (.iload_n 3, 1) := by decide +kernel
theorem dL_law_441 : decode cL_law 441 = .ok (.iconst 3, 1) := by decide +kernel
theorem dL_law_442 : decode cL_law 442 = .ok (.iadd, 1) := by decide +kernel
theorem dL_law_443 : decode cL_law 443 = .ok (.iaload, 1) := by decide +kernel
theorem dL_law_444 : decode cL_law 444 = .ok (.invokevirtual 42, 3) := by decide +kernel
theorem dL_law_447 : decode cL_law 447 = .ok (.aload_n 2, 1) := by decide +kernel
theorem dL_law_448 : decode cL_law 448 = .ok (.aload_n 0, 1) := by decide +kernel
theorem dL_law_449 : decode cL_law 449 = .ok (.iload_n 3, 1) := by decide +kernel
theorem dL_law_450 : decode cL_law 450 = .ok (.iconst 1, 1) := by decide +kernel
theorem dL_law_451 : decode cL_law 451 = .ok (.iadd, 1) := by decide +kernel
theorem dL_law_452 : decode cL_law 452 = .ok (.iaload, 1) := by decide +kernel
theorem dL_law_453 : decode cL_law 453 = .ok (.aload_n 0, 1) := by decide +kernel
theorem dL_law_454 : decode cL_law 454 = .ok (.iload_n 3, 1) := by decide +kernel
theorem dL_law_455 : decode cL_law 455 = .ok (.iconst 2, 1) := by decide +kernel
theorem dL_law_456 : decode cL_law 456 = .ok (.iadd, 1) := by decide +kernel
theorem dL_law_457 : decode cL_law 457 = .ok (.iaload, 1) := by decide +kernel
theorem dL_law_458 : decode cL_law 458 = .ok (.aload_n 0, 1) := by decide +kernel
theorem dL_law_459 : decode cL_law 459 = .ok (.iload_n 3, 1) := by decide +kernel
theorem dL_law_460 : decode cL_law 460 = .ok (.iconst 3, 1) := by decide +kernel
theorem dL_law_461 : decode cL_law 461 = .ok (.iadd, 1) := by decide +kernel
theorem dL_law_462 : decode cL_law 462 = .ok (.iaload, 1) := by decide +kernel
theorem dL_law_463 : decode cL_law 463 = .ok (.invokevirtual 46, 3) := by decide +kernel
theorem dL_law_466 : decode cL_law 466 = .ok (.if_icmp .eq 805, 3) := by decide +kernel
theorem dL_law_469 : decode cL_law 469 = .ok (.iconst 0, 1) := by decide +kernel
theorem dL_law_470 : decode cL_law 470 = .ok (.ireturn, 1) := by decide +kernel
theorem dL_law_471 : decode cL_law 471 = .ok (.aload_n 1, 1) := by decide +kernel
theorem dL_law_472 : decode cL_law 472 = .ok (.aload_n 0, 1) := by decide +kernel
theorem dL_law_473 : decode cL_law 473 = .ok (.iload_n 3, 1) := by decide +kernel
theorem dL_law_474 : decode cL_law 474 = .ok (.iconst 1, 1) := by decide +kernel
theorem dL_law_475 : decode cL_law 475 = .ok (.iadd, 1) := by decide +kernel
theorem dL_law_476 : decode cL_law 476 = .ok (.iaload, 1) := by decide +kernel
theorem dL_law_477 : decode cL_law 477 = .ok (.aload_n 0, 1) := by decide +kernel
theorem dL_law_478 : decode cL_law 478 = .ok (.iload_n 3, 1) := by decide +kernel
theorem dL_law_479 : decode cL_law 479 = .ok (.iconst 2, 1) := by decide +kernel
theorem dL_law_480 : decode cL_law 480 = .ok (.iadd, 1) := by decide +kernel
theorem dL_law_481 : decode cL_law 481 = .ok (.iaload, 1) := by decide +kernel
theorem dL_law_482 : decode cL_law 482 = .ok (.aload_n 0, 1) := by decide +kernel
theorem dL_law_483 : decode cL_law 483 = .ok (.iload_n 3, 1) := by decide +kernel
theorem dL_law_484 : decode cL_law 484 = .ok (.iconst 3, 1) := by decide +kernel
theorem dL_law_485 : decode cL_law 485 = .ok (.iadd, 1) := by decide +kernel
theorem dL_law_486 : decode cL_law 486 = .ok (.iaload, 1) := by decide +kernel
theorem dL_law_487 : decode cL_law 487 = .ok (.invokevirtual 47, 3) := by decide +kernel
theorem dL_law_490 : decode cL_law 490 = .ok (.aload_n 2, 1) := by decide +kernel
theorem dL_law_491 : decode cL_law 491 = .ok (.aload_n 0, 1) := by decide +kernel
theorem dL_law_492 : decode cL_law 492 = .ok (.iload_n 3, 1) := by decide +kernel
theorem dL_law_493 : decode cL_law 493 = .ok (.iconst 1, 1) := by decide +kernel
theorem dL_law_494 : decode cL_law 494 = .ok (.iadd, 1) := by decide +kernel
theorem dL_law_495 : decode cL_law 495 = .ok (.iaload, 1) := by decide +kernel
theorem dL_law_496 : decode cL_law 496 = .ok (.aload_n 0, 1) := by decide +kernel
theorem dL_law_497 : decode cL_law 497 = .ok (.iload_n 3, 1) := by decide +kernel
theorem dL_law_498 : decode cL_law 498 = .ok (.iconst 2, 1) := by decide +kernel
theorem dL_law_499 : decode cL_law 499 = .ok (.iadd, 1) := by decide +kernel
theorem dL_law_500 : decode cL_law 500 = .ok (.iaload, 1) := by decide +kernel
theorem dL_law_501 : decode cL_law 501 = .ok (.aload_n 0, 1) := by decide +kernel
theorem dL_law_502 : decode cL_law 502 = .ok (.iload_n 3, 1) := by decide +kernel
theorem dL_law_503 : decode cL_law 503 = .ok (.iconst 3, 1) := by decide +kernel
theorem dL_law_504 : decode cL_law 504 = .ok (.iadd, 1) := by decide +kernel
theorem dL_law_505 : decode cL_law 505 = .ok (.iaload, 1) := by decide +kernel
theorem dL_law_506 : decode cL_law 506 = .ok (.invokevirtual 50, 3) := by decide +kernel
theorem dL_law_509 : decode cL_law 509 = .ok (.if_icmp .eq 762, 3) := by decide +kernel
theorem dL_law_512 : decode cL_law 512 = .ok (.iconst 0, 1) := by decide +kernel
theorem dL_law_513 : decode cL_law 513 = .ok (.ireturn, 1) := by decide +kernel
theorem dL_law_514 : decode cL_law 514 = .ok (.aload_n 1, 1) := by decide +kernel
theorem dL_law_515 : decode cL_law 515 = .ok (.aload_n 0, 1) := by decide +kernel
theorem dL_law_516 : decode cL_law 516 = .ok (.iload_n 3, 1) := by decide +kernel
theorem dL_law_517 : decode cL_law 517 = .ok (.iconst 1, 1) := by decide +kernel
end
section
theorem dL_law_518 : decode cL_law 518 = .ok (.iadd, 1) := by decide +kernel
theorem dL_law_519 : decode cL_law 519 = .ok (.iaload, 1) := by decide +kernel
theorem dL_law_520 : decode cL_law 520 = .ok (.aload_n 0, 1) := by decide +kernel
theorem dL_law_521 : decode cL_law 521 = .ok (.iload_n 3, 1) := by decide +kernel
theorem dL_law_522 : decode cL_law 522 = .ok (.iconst 2, 1) := by decide +kernel
theorem dL_law_523 : decode cL_law 523 = .ok (.iadd, 1) := by decide +kernel
theorem dL_law_524 : decode cL_law 524 = .ok (.iaload, 1) := by decide +kernel
theorem dL_law_525 : decode cL_law 525 = .ok (.invokevirtual 51, 3) := by decide +kernel
theorem dL_law_528 : decode cL_law 528 = .ok (.aload_n 2, 1) := by decide +kernel
theorem dL_law_529 : decode cL_law 529 = .ok (.aload_n 0, 1) := by decide +kernel
theorem dL_law_530 : decode cL_law 530 = .ok (.iload_n 3, 1) := by decide +kernel
theorem dL_law_531 : decode cL_law 531 = .ok (.iconst 1, 1) := by decide +kernel
theorem dL_law_532 : decode cL_law 532 = .ok (.iadd, 1) := by decide +kernel
theorem dL_law_533 : decode cL_law 533 = .ok (.iaload, 1) := by decide +kernel
theorem dL_law_534 : decode cL_law 534 = .ok (.aload_n 0, 1) := by decide +kernel
theorem dL_law_535 : decode cL_law 535 = .ok (.iload_n 3, 1) := by decide +kernel
theorem dL_law_536 : decode cL_law 536 = .ok (.iconst 2, 1) := by decide +kernel
theorem dL_law_537 : decode cL_law 537 = .ok (.iadd, 1) := by decide +kernel
theorem dL_law_538 : decode cL_law 538 = .ok (.iaload, 1) := by decide +kernel
theorem dL_law_539 : decode cL_law 539 = .ok (.invokevirtual 54, 3) := by decide +kernel
theorem dL_law_542 : decode cL_law 542 = .ok (.if_icmp .eq 729, 3) := by decide +kernel
theorem dL_law_545 : decode cL_law 545 = .ok (.iconst 0, 1) := by decide +kernel
theorem dL_law_546 : decode cL_law 546 = .ok (.ireturn, 1) := by decide +kernel
theorem dL_law_547 : decode cL_law 547 = .ok (.aload_n 1, 1) := by decide +kernel
theorem dL_law_548 : decode cL_law 548 = .ok (.aload_n 0, 1) := by decide +kernel
theorem dL_law_549 : decode cL_law 549 = .ok (.iload_n 3, 1) := by decide +kernel
theorem dL_law_550 : decode cL_law 550 = .ok (.iconst 1, 1) := by decide +kernel
theorem dL_law_551 : decode cL_law 551 = .ok (.iadd, 1) := by decide +kernel
theorem dL_law_552 : decode cL_law 552 = .ok (.iaload, 1) := by decide +kernel
theorem dL_law_553 : decode cL_law 553 = .ok (.aload_n 0, 1) := by decide +kernel
theorem dL_law_554 : decode cL_law 554 = .ok (.iload_n 3, 1) := by decide +kernel
theorem dL_law_555 : decode cL_law 555 = .ok (.iconst 2, 1) := by decide +kernel
theorem dL_law_556 : decode cL_law 556 = .ok (.iadd, 1) := by decide +kernel
theorem dL_law_557 : decode cL_law 557 = .ok (.iaload, 1) := by decide +kernel
theorem dL_law_558 : decode cL_law 558 = .ok (.aload_n 0, 1) := by decide +kernel
theorem dL_law_559 : decode cL_law 559 = .ok (.iload_n 3, 1) := by decide +kernel
theorem dL_law_560 : decode cL_law 560 = .ok (.iconst 3, 1) := by decide +kernel
theorem dL_law_561 : decode cL_law 561 = .ok (.iadd, 1) := by decide +kernel
theorem dL_law_562 : decode cL_law 562 = .ok (.iaload, 1) := by decide +kernel
theorem dL_law_563 : decode cL_law 563 = .ok (.aload_n 0, 1) := by decide +kernel
theorem dL_law_564 : decode cL_law 564 = .ok (.iload_n 3, 1) := by decide +kernel
theorem dL_law_565 : decode cL_law 565 = .ok (.iconst 4, 1) := by decide +kernel
theorem dL_law_566 : decode cL_law 566 = .ok (.iadd, 1) := by decide +kernel
theorem dL_law_567 : decode cL_law 567 = .ok (.iaload, 1) := by decide +kernel
theorem dL_law_568 : decode cL_law 568 = .ok (.invokevirtual 55, 3) := by decide +kernel
theorem dL_law_571 : decode cL_law 571 = .ok (.aload_n 2, 1) := by decide +kernel
theorem dL_law_572 : decode cL_law 572 = .ok (.aload_n 0, 1) := by decide +kernel
theorem dL_law_573 : decode cL_law 573 = .ok (.iload_n 3, 1) := by decide +kernel
theorem dL_law_574 : decode cL_law 574 = .ok (.iconst 1, 1) := by decide +kernel
theorem dL_law_575 : decode cL_law 575 = .ok (.iadd, 1) := by decide +kernel
theorem dL_law_576 : decode cL_law 576 = .ok (.iaload, 1) := by decide +kernel
theorem dL_law_577 : decode cL_law 577 = .ok (.aload_n 0, 1) := by decide +kernel
theorem dL_law_578 : decode cL_law 578 = .ok (.iload_n 3, 1) := by decide +kernel
theorem dL_law_579 : decode cL_law 579 = .ok (.iconst 2, 1) := by decide +kernel
theorem dL_law_580 : decode cL_law 580 = .ok (.iadd, 1) := by decide +kernel
theorem dL_law_581 : decode cL_law 581 = .ok (.iaload, 1) := by decide +kernel
theorem dL_law_582 : decode cL_law 582 = .ok (.aload_n 0, 1) := by decide +kernel
theorem dL_law_583 : decode cL_law 583 = .ok (.iload_n 3, 1) := by decide +kernel
theorem dL_law_584 : decode cL_law 584 = .ok (.iconst 3, 1) := by decide +kernel
theorem dL_law_585 : decode cL_law 585 = .ok (.iadd, 1) := by decide +kernel
theorem dL_law_586 : decode cL_law 586 = .ok (.iaload, 1) := by decide +kernel
theorem dL_law_587 : decode cL_law 587 = .ok (.aload_n 0, 1) := by decide +kernel
theorem dL_law_588 : decode cL_law 588 = .ok (.iload_n 3, 1) := by decide +kernel
theorem dL_law_589 : decode cL_law 589 = .ok (.iconst 4, 1) := by decide +kernel
theorem dL_law_590 : decode cL_law 590 = .ok (.iadd, 1) := by decide +kernel
theorem dL_law_591 : decode cL_law 591 = .ok (.iaload, 1) := by decide +kernel
theorem dL_law_592 : decode cL_law 592 = .ok (.invokevirtual 58, 3) := by decide +kernel
theorem dL_law_595 : decode cL_law 595 = .ok (.if_icmp .eq 676, 3) := by decide +kernel
theorem dL_law_598 : decode cL_law 598 = .ok (.iconst 0, 1) := by decide +kernel
theorem dL_law_599 : decode cL_law 599 = .ok (.ireturn, 1) := by decide +kernel
theorem dL_law_600 : decode cL_law 600 = .ok (.aload_n 1, 1) := by decide +kernel
theorem dL_law_601 : decode cL_law 601 = .ok (.aload_n 0, 1) := by decide +kernel
theorem dL_law_602 : decode cL_law 602 = .ok (.iload_n 3, 1) := by decide +kernel
theorem dL_law_603 : decode cL_law 603 = .ok (.iconst 1, 1) := by decide +kernel
theorem dL_law_604 : decode cL_law 604 = .ok (.iadd, 1) := by decide +kernel
theorem dL_law_605 : decode cL_law 605 = .ok (.iaload, 1) := by decide +kernel
theorem dL_law_606 : decode cL_law 606 = .ok (.aload_n 0, 1) := by decide +kernel
theorem dL_law_607 : decode cL_law 607 = .ok (.iload_n 3, 1) := by decide +kernel
theorem dL_law_608 : decode cL_law 608 = .ok (.iconst 2, 1) := by decide +kernel
theorem dL_law_609 : decode cL_law 609 = .ok (.iadd, 1) := by decide +kernel
theorem dL_law_610 : decode cL_law 610 = .ok (.iaload, 1) := by decide +kernel
theorem dL_law_611 : decode cL_law 611 = .ok (.invokevirtual 59, 3) := by decide +kernel
theorem dL_law_614 : decode cL_law 614 = .ok (.aload_n 2, 1) := by decide +kernel
theorem dL_law_615 : decode cL_law 615 = .ok (.aload_n 0, 1) := by decide +kernel
theorem dL_law_616 : decode cL_law 616 = .ok (.iload_n 3, 1) := by decide +kernel
theorem dL_law_617 : decode cL_law 617 = .ok (.iconst 1, 1) := by decide +kernel
theorem dL_law_618 : decode cL_law 618 = .ok (.iadd, 1) := by decide +kernel
theorem dL_law_619 : decode cL_law 619 = .ok (.iaload, 1) := by decide +kernel
theorem dL_law_620 : decode cL_law 620 = .ok (.aload_n 0, 1) := by decide +kernel
theorem dL_law_621 : decode cL_law 621 = .ok (.iload_n 3, 1) := by decide +kernel
theorem dL_law_622 : decode cL_law 622 = .ok (.iconst 2, 1) := by decide +kernel
theorem dL_law_623 : decode cL_law 623 = .ok (.iadd, 1) := by decide +kernel
theorem dL_law_624 : decode cL_law 624 = .ok (.iaload, 1) := by decide +kernel
theorem dL_law_625 : decode cL_law 625 = .ok (.invokevirtual 62, 3) := by decide +kernel
theorem dL_law_628 : decode cL_law 628 = .ok (.if_icmp .eq 643, 3) := by decide +kernel
theorem dL_law_631 : decode cL_law 631 = .ok (.iconst 0, 1) := by decide +kernel
theorem dL_law_632 : decode cL_law 632 = .ok (.ireturn, 1) := by decide +kernel
theorem dL_law_633 : decode cL_law 633 = .ok (.aload_n 1, 1) := by decide +kernel
theorem dL_law_634 : decode cL_law 634 = .ok (.aload_n 0, 1) := by decide +kernel
theorem dL_law_635 : decode cL_law 635 = .ok (.iload_n 3, 1) := by decide +kernel
theorem dL_law_636 : decode cL_law 636 = .ok (.iconst 1, 1) := by decide +kernel
theorem dL_law_637 : decode cL_law 637 = .ok (.iadd, 1) := by decide +kernel
theorem dL_law_638 : decode cL_law 638 = .ok (.iaload, 1) := by decide +kernel
theorem dL_law_639 : decode cL_law 639 = .ok (.aload_n 0, 1) := by decide +kernel
theorem dL_law_640 : decode cL_law 640 = .ok (.iload_n 3, 1) := by decide +kernel
theorem dL_law_641 : decode cL_law 641 = .ok (.iconst 2, 1) := by decide +kernel
theorem dL_law_642 : decode cL_law 642 = .ok (.iadd, 1) := by decide +kernel
theorem dL_law_643 : decode cL_law 643 = .ok (.iaload, 1) := by decide +kernel
theorem dL_law_644 : decode cL_law 644 = .ok (.aload_n 0, 1) := by decide +kernel
theorem dL_law_645 : decode cL_law 645 = .ok (.iload_n 3, 1) := by decide +kernel
theorem dL_law_646 : decode cL_law 646 = .ok (.iconst 3, 1) := by decide +kernel
theorem dL_law_647 : decode cL_law 647 = .ok (.iadd, 1) := by decide +kernel
theorem dL_law_648 : decode cL_law 648 = .ok (.iaload, 1) := by decide +kernel
theorem dL_law_649 : decode cL_law 649 = .ok (.aload_n 0, 1) := by decide +kernel
theorem dL_law_650 : decode cL_law 650 = .ok (.iload_n 3, 1) := by decide +kernel
theorem dL_law_651 : decode cL_law 651 = .ok (.iconst 4, 1) := by decide +kernel
theorem dL_law_652 : decode cL_law 652 = .ok (.iadd, 1) := by decide +kernel
theorem dL_law_653 : decode cL_law 653 = .ok (.iaload, 1) := by decide +kernel
theorem dL_law_654 : decode cL_law 654 = .ok (.invokevirtual 63, 3) := by decide +kernel
theorem dL_law_657 : decode cL_law 657 = .ok (.aload_n 2, 1) := by decide +kernel
theorem dL_law_658 : decode cL_law 658 = .ok (.aload_n 0, 1) := by decide +kernel
theorem dL_law_659 : decode cL_law 659 = .ok (.iload_n 3, 1) := by decide +kernel
theorem dL_law_660 : decode cL_law 660 = .ok (.iconst 1, 1) := by decide +kernel
theorem dL_law_661 : decode cL_law 661 = .ok (.iadd, 1) := by decide +kernel
theorem dL_law_662 : decode cL_law 662 = .ok (.iaload, 1) := by decide +kernel
theorem dL_law_663 : decode cL_law 663 = .ok (.aload_n 0, 1) := by decide +kernel
theorem dL_law_664 : decode cL_law 664 = .ok (.iload_n 3, 1) := by decide +kernel
theorem dL_law_665 : decode cL_law 665 = .ok (.iconst 2, 1) := by decide +kernel
theorem dL_law_666 : decode cL_law 666 = .ok (.iadd, 1) := by decide +kernel
theorem dL_law_667 : decode cL_law 667 = .ok (.iaload, 1) := by decide +kernel
theorem dL_law_668 : decode cL_law 668 = .ok (.aload_n 0, 1) := by decide +kernel
theorem dL_law_669 : decode cL_law 669 = .ok (.iload_n 3, 1) := by decide +kernel
theorem dL_law_670 : decode cL_law 670 = .ok (.iconst 3, 1) := by decide +kernel
theorem dL_law_671 : decode cL_law 671 = .ok (.iadd, 1) := by decide +kernel
theorem dL_law_672 : decode cL_law 672 = .ok (.iaload, 1) := by decide +kernel
theorem dL_law_673 : decode cL_law 673 = .ok (.aload_n 0, 1) := by decide +kernel
theorem dL_law_674 : decode cL_law 674 = .ok (.iload_n 3, 1) := by decide +kernel
theorem dL_law_675 : decode cL_law 675 = .ok (.iconst 4, 1) := by decide +kernel
theorem dL_law_676 : decode cL_law 676 = .ok (.iadd, 1) := by decide +kernel
theorem dL_law_677 : decode cL_law 677 = .ok (.iaload, 1) := by decide +kernel
theorem dL_law_678 : decode cL_law 678 = .ok (.invokevirtual 66, 3) := by decide +kernel
theorem dL_law_681 : decode cL_law 681 = .ok (.if_icmp .eq 590, 3) := by decide +kernel
theorem dL_law_684 : decode cL_law 684 = .ok (.iconst 0, 1) := by decide +kernel
theorem dL_law_685 : decode cL_law 685 = .ok (.ireturn, 1) := by decide +kernel
theorem dL_law_686 : decode cL_law 686 = .ok (.aload_n 1, 1) := by decide +kernel
theorem dL_law_687 : decode cL_law 687 = .ok (.aload_n 0, 1) := by decide +kernel
theorem dL_law_688 : decode cL_law 688 = .ok (.iload_n 3, 1) := by decide +kernel
theorem dL_law_689 : decode cL_law 689 = .ok (.iconst 1, 1) := by decide +kernel
theorem dL_law_690 : decode cL_law 690 = .ok (.iadd, 1) := by decide +kernel
theorem dL_law_691 : decode cL_law 691 = .ok (.iaload, 1) := by decide +kernel
theorem dL_law_692 : decode cL_law 692 = .ok (.aload_n 0, 1) := by decide +kernel
theorem dL_law_693 : decode cL_law 693 = .ok (.iload_n 3, 1) := by decide +kernel
theorem dL_law_694 : decode cL_law 694 = .ok (.iconst 2, 1) := by decide +kernel
theorem dL_law_695 : decode cL_law 695 = .ok (.iadd, 1) := by decide +kernel
theorem dL_law_696 : decode cL_law 696 = .ok (.iaload, 1) := by decide +kernel
theorem dL_law_697 : decode cL_law 697 = .ok (.invokevirtual 67, 3) := by decide +kernel
theorem dL_law_700 : decode cL_law 700 = .ok (.aload_n 2, 1) := by decide +kernel
theorem dL_law_701 : decode cL_law 701 = .ok (.aload_n 0, 1) := by decide +kernel
theorem dL_law_702 : decode cL_law 702 = .ok (.iload_n 3, 1) := by decide +kernel
theorem dL_law_703 : decode cL_law 703 = .ok (.iconst 1, 1) := by decide +kernel
theorem dL_law_704 : decode cL_law 704 = .ok (.iadd, 1) := by decide +kernel
theorem dL_law_705 : decode cL_law 705 = .ok (.iaload, 1) := by decide +kernel
theorem dL_law_706 : decode cL_law 706 = .ok (.aload_n 0, 1) := by decide +kernel
theorem dL_law_707 : decode cL_law 707 = .ok (.iload_n 3, 1) := by decide +kernel
theorem dL_law_708 : decode cL_law 708 = .ok (.iconst 2, 1) := by decide +kernel
theorem dL_law_709 : decode cL_law 709 = .ok (.iadd, 1) := by decide +kernel
theorem dL_law_710 : decode cL_law 710 = .ok (.iaload, 1) := by decide +kernel
theorem dL_law_711 : decode cL_law 711 = .ok (.invokevirtual 71, 3) := by decide +kernel
theorem dL_law_714 : decode cL_law 714 = .ok (.lcmp, 1) := by decide +kernel
theorem dL_law_715 : decode cL_law 715 = .ok (.ifCond .eq 556, 3) := by decide +kernel
theorem dL_law_718 : decode cL_law 718 = .ok (.iconst 0, 1) := by decide +kernel
theorem dL_law_719 : decode cL_law 719 = .ok (.ireturn, 1) := by decide +kernel
theorem dL_law_720 : decode cL_law 720 = .ok (.aload_n 1, 1) := by decide +kernel
theorem dL_law_721 : decode cL_law 721 = .ok (.aload_n 0, 1) := by decide +kernel
theorem dL_law_722 : decode cL_law 722 = .ok (.iload_n 3, 1) := by decide +kernel
theorem dL_law_723 : decode cL_law 723 = .ok (.iconst 1, 1) := by decide +kernel
theorem dL_law_724 : decode cL_law 724 = .ok (.iadd, 1) := by decide +kernel
theorem dL_law_725 : decode cL_law 725 = .ok (.iaload, 1) := by decide +kernel
theorem dL_law_726 : decode cL_law 726 = .ok (.aload_n 0, 1) := by decide +kernel
theorem dL_law_727 : decode cL_law 727 = .ok (.iload_n 3, 1) := by decide +kernel
theorem dL_law_728 : decode cL_law 728 = .ok (.iconst 2, 1) := by decide +kernel
theorem dL_law_729 : decode cL_law 729 = .ok (.iadd, 1) := by decide +kernel
theorem dL_law_730 : decode cL_law 730 = .ok (.iaload, 1) := by decide +kernel
theorem dL_law_731 : decode cL_law 731 = .ok (.i2l, 1) := by decide +kernel
theorem dL_law_732 : decode cL_law 732 = .ok (.bipush 32, 2) := by decide +kernel
theorem dL_law_734 : decode cL_law 734 = .ok (.lshl, 1) := by decide +kernel
theorem dL_law_735 : decode cL_law 735 = .ok (.aload_n 0, 1) := by decide +kernel
theorem dL_law_736 : decode cL_law 736 = .ok (.iload_n 3, 1) := by decide +kernel
theorem dL_law_737 : decode cL_law 737 = .ok (.iconst 3, 1) := by decide +kernel
theorem dL_law_738 : decode cL_law 738 = .ok (.iadd, 1) := by decide +kernel
theorem dL_law_739 : decode cL_law 739 = .ok (.iaload, 1) := by decide +kernel
theorem dL_law_740 : decode cL_law 740 = .ok (.i2l, 1) := by decide +kernel
theorem dL_law_741 : decode cL_law 741 = .ok (.ldc2_w 72, 3) := by decide +kernel
theorem dL_law_744 : decode cL_law 744 = .ok (.land, 1) := by decide +kernel
theorem dL_law_745 : decode cL_law 745 = .ok (.lor, 1) := by decide +kernel
theorem dL_law_746 : decode cL_law 746 = .ok (.invokevirtual 74, 3) := by decide +kernel
theorem dL_law_749 : decode cL_law 749 = .ok (.aload_n 2, 1) := by decide +kernel
theorem dL_law_750 : decode cL_law 750 = .ok (.aload_n 0, 1) := by decide +kernel
theorem dL_law_751 : decode cL_law 751 = .ok (.iload_n 3, 1) := by decide +kernel
theorem dL_law_752 : decode cL_law 752 = .ok (.iconst 1, 1) := by decide +kernel
theorem dL_law_753 : decode cL_law 753 = .ok (.iadd, 1) := by decide +kernel
theorem dL_law_754 : decode cL_law 754 = .ok (.iaload, 1) := by decide +kernel
theorem dL_law_755 : decode cL_law 755 = .ok (.aload_n 0, 1) := by decide +kernel
theorem dL_law_756 : decode cL_law 756 = .ok (.iload_n 3, 1) := by decide +kernel
theorem dL_law_757 : decode cL_law 757 = .ok (.iconst 2, 1) := by decide +kernel
theorem dL_law_758 : decode cL_law 758 = .ok (.iadd, 1) := by decide +kernel
theorem dL_law_759 : decode cL_law 759 = .ok (.iaload, 1) := by decide +kernel
theorem dL_law_760 : decode cL_law 760 = .ok (.i2l, 1) := by decide +kernel
theorem dL_law_761 : decode cL_law 761 = .ok (.bipush 32, 2) := by decide +kernel
theorem dL_law_763 : decode cL_law 763 = .ok (.lshl, 1) := by decide +kernel
theorem dL_law_764 : decode cL_law 764 = .ok (.aload_n 0, 1) := by decide +kernel
theorem dL_law_765 : decode cL_law 765 = .ok (.iload_n 3, 1) := by decide +kernel
theorem dL_law_766 : decode cL_law 766 = .ok (.iconst 3, 1) := by decide +kernel
theorem dL_law_767 : decode cL_law 767 = .ok (.iadd, 1) := by decide +kernel
theorem dL_law_768 : decode cL_law 768 = .ok (.iaload, 1) := by decide +kernel
theorem dL_law_769 : decode cL_law 769 = .ok (.i2l, 1) := by decide +kernel
theorem dL_law_770 : decode cL_law 770 = .ok (.ldc2_w 72, 3) := by decide +kernel
theorem dL_law_773 : decode cL_law 773 = .ok (.land, 1) := by decide +kernel
theorem dL_law_774 : decode cL_law 774 = .ok (.lor, 1) := by decide +kernel
theorem dL_law_775 : decode cL_law 775 = .ok (.invokevirtual 78, 3) := by decide +kernel
theorem dL_law_778 : decode cL_law 778 = .ok (.if_icmp .eq 493, 3) := by decide +kernel
theorem dL_law_781 : decode cL_law 781 = .ok (.iconst 0, 1) := by decide +kernel
theorem dL_law_782 : decode cL_law 782 = .ok (.ireturn, 1) := by decide +kernel
theorem dL_law_783 : decode cL_law 783 = .ok (.aload_n 1, 1) := by decide +kernel
theorem dL_law_784 : decode cL_law 784 = .ok (.aload_n 0, 1) := by decide +kernel
theorem dL_law_785 : decode cL_law 785 = .ok (.iload_n 3, 1) := by decide +kernel
theorem dL_law_786 : decode cL_law 786 = .ok (.iconst 1, 1) := by decide +kernel
theorem dL_law_787 : decode cL_law 787 = .ok (.iadd, 1) := by decide +kernel
theorem dL_law_788 : decode cL_law 788 = .ok (.iaload, 1) := by decide +kernel
theorem dL_law_789 : decode cL_law 789 = .ok (.aload_n 0, 1) := by decide +kernel
theorem dL_law_790 : decode cL_law 790 = .ok (.iload_n 3, 1) := by decide +kernel
theorem dL_law_791 : decode cL_law 791 = .ok (.iconst 2, 1) := by decide +kernel
theorem dL_law_792 : decode cL_law 792 = .ok (.iadd, 1) := by decide +kernel
theorem dL_law_793 : decode cL_law 793 = .ok (.iaload, 1) := by decide +kernel
theorem dL_law_794 : decode cL_law 794 = .ok (.i2l, 1) := by decide +kernel
theorem dL_law_795 : decode cL_law 795 = .ok (.bipush 32, 2) := by decide +kernel
theorem dL_law_797 : decode cL_law 797 = .ok (.lshl, 1) := by decide +kernel
theorem dL_law_798 : decode cL_law 798 = .ok (.aload_n 0, 1) := by decide +kernel
theorem dL_law_799 : decode cL_law 799 = .ok (.iload_n 3, 1) := by decide +kernel
theorem dL_law_800 : decode cL_law 800 = .ok (.iconst 3, 1) := by decide +kernel
theorem dL_law_801 : decode cL_law 801 = .ok (.iadd, 1) := by decide +kernel
theorem dL_law_802 : decode cL_law 802 = .ok (.iaload, 1) := by decide +kernel
theorem dL_law_803 : decode cL_law 803 = .ok (.i2l, 1) := by decide +kernel
theorem dL_law_804 : decode cL_law 804 = .ok (.ldc2_w 72, 3) := by decide +kernel
theorem dL_law_807 : decode cL_law 807 = .ok (.land, 1) := by decide +kernel
theorem dL_law_808 : decode cL_law 808 = .ok (.lor, 1) := by decide +kernel
theorem dL_law_809 : decode cL_law 809 = .ok (.aload_n 0, 1) := by decide +kernel
theorem dL_law_810 : decode cL_law 810 = .ok (.iload_n 3, 1) := by decide +kernel
theorem dL_law_811 : decode cL_law 811 = .ok (.iconst 4, 1) := by decide +kernel
theorem dL_law_812 : decode cL_law 812 = .ok (.iadd, 1) := by decide +kernel
theorem dL_law_813 : decode cL_law 813 = .ok (.iaload, 1) := by decide +kernel
theorem dL_law_814 : decode cL_law 814 = .ok (.invokevirtual 79, 3) := by decide +kernel
theorem dL_law_817 : decode cL_law 817 = .ok (.aload_n 2, 1) := by decide +kernel
theorem dL_law_818 : decode cL_law 818 = .ok (.aload_n 0, 1) := by decide +kernel
theorem dL_law_819 : decode cL_law 819 = .ok (.iload_n 3, 1) := by decide +kernel
theorem dL_law_820 : decode cL_law 820 = .ok (.iconst 1, 1) := by decide +kernel
theorem dL_law_821 : decode cL_law 821 = .ok (.iadd, 1) := by decide +kernel
theorem dL_law_822 : decode cL_law 822 = .ok (.iaload, 1) := by decide +kernel
theorem dL_law_823 : decode cL_law 823 = .ok (.aload_n 0, 1) := by decide +kernel
theorem dL_law_824 : decode cL_law 824 = .ok (.iload_n 3, 1) := by decide +kernel
theorem dL_law_825 : decode cL_law 825 = .ok (.iconst 2, 1) := by decide +kernel
theorem dL_law_826 : decode cL_law 826 = .ok (.iadd, 1) := by decide +kernel
theorem dL_law_827 : decode cL_law 827 = .ok (.iaload, 1) := by decide +kernel
theorem dL_law_828 : decode cL_law 828 = .ok (.i2l, 1) := by decide +kernel
theorem dL_law_829 : decode cL_law 829 = .ok (.bipush 32, 2) := by decide +kernel
theorem dL_law_831 : decode cL_law 831 = .ok (.lshl, 1) := by decide +kernel
theorem dL_law_832 : decode cL_law 832 = .ok (.aload_n 0, 1) := by decide +kernel
theorem dL_law_833 : decode cL_law 833 = .ok (.iload_n 3, 1) := by decide +kernel
theorem dL_law_834 : decode cL_law 834 = .ok (.iconst 3, 1) := by decide +kernel
theorem dL_law_835 : decode cL_law 835 = .ok (.iadd, 1) := by decide +kernel
theorem dL_law_836 : decode cL_law 836 = .ok (.iaload, 1) := by decide +kernel
theorem dL_law_837 : decode cL_law 837 = .ok (.i2l, 1) := by decide +kernel
theorem dL_law_838 : decode cL_law 838 = .ok (.ldc2_w 72, 3) := by decide +kernel
theorem dL_law_841 : decode cL_law 841 = .ok (.land, 1) := by decide +kernel
theorem dL_law_842 : decode cL_law 842 = .ok (.lor, 1) := by decide +kernel
theorem dL_law_843 : decode cL_law 843 = .ok (.aload_n 0, 1) := by decide +kernel
theorem dL_law_844 : decode cL_law 844 = .ok (.iload_n 3, 1) := by decide +kernel
theorem dL_law_845 : decode cL_law 845 = .ok (.iconst 4, 1) := by decide +kernel
theorem dL_law_846 : decode cL_law 846 = .ok (.iadd, 1) := by decide +kernel
theorem dL_law_847 : decode cL_law 847 = .ok (.iaload, 1) := by decide +kernel
theorem dL_law_848 : decode cL_law 848 = .ok (.invokevirtual 83, 3) := by decide +kernel
theorem dL_law_851 : decode cL_law 851 = .ok (.if_icmp .eq 420, 3) := by decide +kernel
theorem dL_law_854 : decode cL_law 854 = .ok (.iconst 0, 1) := by decide +kernel
theorem dL_law_855 : decode cL_law 855 = .ok (.ireturn, 1) := by decide +kernel
theorem dL_law_856 : decode cL_law 856 = .ok (.aload_n 1, 1) := by decide +kernel
theorem dL_law_857 : decode cL_law 857 = .ok (.aload_n 0, 1) := by decide +kernel
theorem dL_law_858 : decode cL_law 858 = .ok (.iload_n 3, 1) := by decide +kernel
theorem dL_law_859 : decode cL_law 859 = .ok (.iconst 1, 1) := by decide +kernel
theorem dL_law_860 : decode cL_law 860 = .ok (.iadd, 1) := by decide +kernel
theorem dL_law_861 : decode cL_law 861 = .ok (.iaload, 1) := by decide +kernel
theorem dL_law_862 : decode cL_law 862 = .ok (.invokevirtual 84, 3) := by decide +kernel
theorem dL_law_865 : decode cL_law 865 = .ok (.aload_n 2, 1) := by decide +kernel
theorem dL_law_866 : decode cL_law 866 = .ok (.aload_n 0, 1) := by decide +kernel
theorem dL_law_867 : decode cL_law 867 = .ok (.iload_n 3, 1) := by decide +kernel
theorem dL_law_868 : decode cL_law 868 = .ok (.iconst 1, 1) := by decide +kernel
theorem dL_law_869 : decode cL_law 869 = .ok (.iadd, 1) := by decide +kernel
theorem dL_law_870 : decode cL_law 870 = .ok (.iaload, 1) := by decide +kernel
theorem dL_law_871 : decode cL_law 871 = .ok (.invokevirtual 87, 3) := by decide +kernel
theorem dL_law_874 : decode cL_law 874 = .ok (.if_icmp .eq 397, 3) := by decide +kernel
theorem dL_law_877 : decode cL_law 877 = .ok (.iconst 0, 1) := by decide +kernel
theorem dL_law_878 : decode cL_law 878 = .ok (.ireturn, 1) := by decide +kernel
theorem dL_law_879 : decode cL_law 879 = .ok (.aload_n 1, 1) := by decide +kernel
theorem dL_law_880 : decode cL_law 880 = .ok (.invokevirtual 88, 3) := by decide +kernel
theorem dL_law_883 : decode cL_law 883 = .ok (.aload_n 2, 1) := by decide +kernel
theorem dL_law_884 : decode cL_law 884 = .ok (.invokevirtual 92, 3) := by decide +kernel
theorem dL_law_887 : decode cL_law 887 = .ok (.if_icmp .eq 384, 3) := by decide +kernel
theorem dL_law_890 : decode cL_law 890 = .ok (.iconst 0, 1) := by decide +kernel
theorem dL_law_891 : decode cL_law 891 = .ok (.ireturn, 1) := by decide +kernel
theorem dL_law_892 : decode cL_law 892 = .ok (.aload_n 1, 1) := by decide +kernel
theorem dL_law_893 : decode cL_law 893 = .ok (.aload_n 0, 1) := by decide +kernel
theorem dL_law_894 : decode cL_law 894 = .ok (.iload_n 3, 1) := by decide +kernel
theorem dL_law_895 : decode cL_law 895 = .ok (.iconst 1, 1) := by decide +kernel
theorem dL_law_896 : decode cL_law 896 = .ok (.iadd, 1) := by decide +kernel
theorem dL_law_897 : decode cL_law 897 = .ok (.iaload, 1) := by decide +kernel
theorem dL_law_898 : decode cL_law 898 = .ok (.aload_n 0, 1) := by decide +kernel
theorem dL_law_899 : decode cL_law 899 = .ok (.iload_n 3, 1) := by decide +kernel
theorem dL_law_900 : decode cL_law 900 = .ok (.iconst 2, 1) := by decide +kernel
theorem dL_law_901 : decode cL_law 901 = .ok (.iadd, 1) := by decide +kernel
theorem dL_law_902 : decode cL_law 902 = .ok (.iaload, 1) := by decide +kernel
theorem dL_law_903 : decode cL_law 903 = .ok (.i2l, 1) := by decide +kernel
end
section
theorem dL_law_904 : decode cL_law 904 = .ok (.bipush 32, 2) := by decide +kernel
theorem dL_law_906 : decode cL_law 906 = .ok (.lshl, 1) := by decide +kernel
theorem dL_law_907 : decode cL_law 907 = .ok (.aload_n 0, 1) := by decide +kernel
theorem dL_law_908 : decode cL_law 908 = .ok (.iload_n 3, 1) := by decide +kernel
theorem dL_law_909 : decode cL_law 909 = .ok (.iconst 3, 1) := by decide +kernel
theorem dL_law_910 : decode cL_law 910 = .ok (.iadd, 1) := by decide +kernel
theorem dL_law_911 : decode cL_law 911 = .ok (.iaload, 1) := by decide +kernel
theorem dL_law_912 : decode cL_law 912 = .ok (.i2l, 1) := by decide +kernel
theorem dL_law_913 : decode cL_law 913 = .ok (.ldc2_w 72, 3) := by decide +kernel
theorem dL_law_916 : decode cL_law 916 = .ok (.land, 1) := by decide +kernel
theorem dL_law_917 : decode cL_law 917 = .ok (.lor, 1) := by decide +kernel
theorem dL_law_918 : decode cL_law 918 = .ok (.aload_n 0, 1) := by decide +kernel
theorem dL_law_919 : decode cL_law 919 = .ok (.iload_n 3, 1) := by decide +kernel
theorem dL_law_920 : decode cL_law 920 = .ok (.iconst 4, 1) := by decide +kernel
theorem dL_law_921 : decode cL_law 921 = .ok (.iadd, 1) := by decide +kernel
theorem dL_law_922 : decode cL_law 922 = .ok (.iaload, 1) := by decide +kernel
theorem dL_law_923 : decode cL_law 923 = .ok (.invokevirtual 93, 3) := by decide +kernel
theorem dL_law_926 : decode cL_law 926 = .ok (.aload_n 2, 1) := by decide +kernel
theorem dL_law_927 : decode cL_law 927 = .ok (.aload_n 0, 1) := by decide +kernel
theorem dL_law_928 : decode cL_law 928 = .ok (.iload_n 3, 1) := by decide +kernel
theorem dL_law_929 : decode cL_law 929 = .ok (.iconst 1, 1) := by decide +kernel
theorem dL_law_930 : decode cL_law 930 = .ok (.iadd, 1) := by decide +kernel
theorem dL_law_931 : decode cL_law 931 = .ok (.iaload, 1) := by decide +kernel
theorem dL_law_932 : decode cL_law 932 = .ok (.aload_n 0, 1) := by decide +kernel
theorem dL_law_933 : decode cL_law 933 = .ok (.iload_n 3, 1) := by decide +kernel
theorem dL_law_934 : decode cL_law 934 = .ok (.iconst 2, 1) := by decide +kernel
theorem dL_law_935 : decode cL_law 935 = .ok (.iadd, 1) := by decide +kernel
theorem dL_law_936 : decode cL_law 936 = .ok (.iaload, 1) := by decide +kernel
theorem dL_law_937 : decode cL_law 937 = .ok (.i2l, 1) := by decide +kernel
theorem dL_law_938 : decode cL_law 938 = .ok (.bipush 32, 2) := by decide +kernel
theorem dL_law_940 : decode cL_law 940 = .ok (.lshl, 1) := by decide +kernel
theorem dL_law_941 : decode cL_law 941 = .ok (.aload_n 0, 1) := by decide +kernel
theorem dL_law_942 : decode cL_law 942 = .ok (.iload_n 3, 1) := by decide +kernel
theorem dL_law_943 : decode cL_law 943 = .ok (.iconst 3, 1) := by decide +kernel
theorem dL_law_944 : decode cL_law 944 = .ok (.iadd, 1) := by decide +kernel
theorem dL_law_945 : decode cL_law 945 = .ok (.iaload, 1) := by decide +kernel
theorem dL_law_946 : decode cL_law 946 = .ok (.i2l, 1) := by decide +kernel
theorem dL_law_947 : decode cL_law 947 = .ok (.ldc2_w 72, 3) := by decide +kernel
theorem dL_law_950 : decode cL_law 950 = .ok (.land, 1) := by decide +kernel
theorem dL_law_951 : decode cL_law 951 = .ok (.lor, 1) := by decide +kernel
theorem dL_law_952 : decode cL_law 952 = .ok (.aload_n 0, 1) := by decide +kernel
theorem dL_law_953 : decode cL_law 953 = .ok (.iload_n 3, 1) := by decide +kernel
theorem dL_law_954 : decode cL_law 954 = .ok (.iconst 4, 1) := by decide +kernel
theorem dL_law_955 : decode cL_law 955 = .ok (.iadd, 1) := by decide +kernel
theorem dL_law_956 : decode cL_law 956 = .ok (.iaload, 1) := by decide +kernel
theorem dL_law_957 : decode cL_law 957 = .ok (.invokevirtual 96, 3) := by decide +kernel
theorem dL_law_960 : decode cL_law 960 = .ok (.if_icmp .eq 311, 3) := by decide +kernel
theorem dL_law_963 : decode cL_law 963 = .ok (.iconst 0, 1) := by decide +kernel
theorem dL_law_964 : decode cL_law 964 = .ok (.ireturn, 1) := by decide +kernel
theorem dL_law_965 : decode cL_law 965 = .ok (.aload_n 1, 1) := by decide +kernel
theorem dL_law_966 : decode cL_law 966 = .ok (.aload_n 0, 1) := by decide +kernel
theorem dL_law_967 : decode cL_law 967 = .ok (.iload_n 3, 1) := by decide +kernel
theorem dL_law_968 : decode cL_law 968 = .ok (.iconst 1, 1) := by decide +kernel
theorem dL_law_969 : decode cL_law 969 = .ok (.iadd, 1) := by decide +kernel
theorem dL_law_970 : decode cL_law 970 = .ok (.iaload, 1) := by decide +kernel
theorem dL_law_971 : decode cL_law 971 = .ok (.aload_n 0, 1) := by decide +kernel
theorem dL_law_972 : decode cL_law 972 = .ok (.iload_n 3, 1) := by decide +kernel
theorem dL_law_973 : decode cL_law 973 = .ok (.iconst 2, 1) := by decide +kernel
theorem dL_law_974 : decode cL_law 974 = .ok (.iadd, 1) := by decide +kernel
theorem dL_law_975 : decode cL_law 975 = .ok (.iaload, 1) := by decide +kernel
theorem dL_law_976 : decode cL_law 976 = .ok (.aload_n 0, 1) := by decide +kernel
theorem dL_law_977 : decode cL_law 977 = .ok (.iload_n 3, 1) := by decide +kernel
theorem dL_law_978 : decode cL_law 978 = .ok (.iconst 3, 1) := by decide +kernel
theorem dL_law_979 : decode cL_law 979 = .ok (.iadd, 1) := by decide +kernel
theorem dL_law_980 : decode cL_law 980 = .ok (.iaload, 1) := by decide +kernel
theorem dL_law_981 : decode cL_law 981 = .ok (.invokevirtual 97, 3) := by decide +kernel
theorem dL_law_984 : decode cL_law 984 = .ok (.aload_n 2, 1) := by decide +kernel
theorem dL_law_985 : decode cL_law 985 = .ok (.aload_n 0, 1) := by decide +kernel
theorem dL_law_986 : decode cL_law 986 = .ok (.iload_n 3, 1) := by decide +kernel
theorem dL_law_987 : decode cL_law 987 = .ok (.iconst 1, 1) := by decide +kernel
theorem dL_law_988 : decode cL_law 988 = .ok (.iadd, 1) := by decide +kernel
theorem dL_law_989 : decode cL_law 989 = .ok (.iaload, 1) := by decide +kernel
theorem dL_law_990 : decode cL_law 990 = .ok (.aload_n 0, 1) := by decide +kernel
theorem dL_law_991 : decode cL_law 991 = .ok (.iload_n 3, 1) := by decide +kernel
theorem dL_law_992 : decode cL_law 992 = .ok (.iconst 2, 1) := by decide +kernel
theorem dL_law_993 : decode cL_law 993 = .ok (.iadd, 1) := by decide +kernel
theorem dL_law_994 : decode cL_law 994 = .ok (.iaload, 1) := by decide +kernel
theorem dL_law_995 : decode cL_law 995 = .ok (.aload_n 0, 1) := by decide +kernel
theorem dL_law_996 : decode cL_law 996 = .ok (.iload_n 3, 1) := by decide +kernel
theorem dL_law_997 : decode cL_law 997 = .ok (.iconst 3, 1) := by decide +kernel
theorem dL_law_998 : decode cL_law 998 = .ok (.iadd, 1) := by decide +kernel
theorem dL_law_999 : decode cL_law 999 = .ok (.iaload, 1) := by decide +kernel
theorem dL_law_1000 : decode cL_law 1000 = .ok (.invokevirtual 100, 3) := by decide +kernel
theorem dL_law_1003 : decode cL_law 1003 = .ok (.if_icmp .eq 268, 3) := by decide +kernel
theorem dL_law_1006 : decode cL_law 1006 = .ok (.iconst 0, 1) := by decide +kernel
theorem dL_law_1007 : decode cL_law 1007 = .ok (.ireturn, 1) := by decide +kernel
theorem dL_law_1008 : decode cL_law 1008 = .ok (.aload_n 1, 1) := by decide +kernel
theorem dL_law_1009 : decode cL_law 1009 = .ok (.aload_n 0, 1) := by decide +kernel
theorem dL_law_1010 : decode cL_law 1010 = .ok (.iload_n 3, 1) := by decide +kernel
theorem dL_law_1011 : decode cL_law 1011 = .ok (.iconst 1, 1) := by decide +kernel
theorem dL_law_1012 : decode cL_law 1012 = .ok (.iadd, 1) := by decide +kernel
theorem dL_law_1013 : decode cL_law 1013 = .ok (.iaload, 1) := by decide +kernel
theorem dL_law_1014 : decode cL_law 1014 = .ok (.aload_n 0, 1) := by decide +kernel
theorem dL_law_1015 : decode cL_law 1015 = .ok (.iload_n 3, 1) := by decide +kernel
theorem dL_law_1016 : decode cL_law 1016 = .ok (.iconst 2, 1) := by decide +kernel
theorem dL_law_1017 : decode cL_law 1017 = .ok (.iadd, 1) := by decide +kernel
theorem dL_law_1018 : decode cL_law 1018 = .ok (.iaload, 1) := by decide +kernel
theorem dL_law_1019 : decode cL_law 1019 = .ok (.invokevirtual 101, 3) := by decide +kernel
theorem dL_law_1022 : decode cL_law 1022 = .ok (.aload_n 2, 1) := by decide +kernel
theorem dL_law_1023 : decode cL_law 1023 = .ok (.aload_n 0, 1) := by decide +kernel
theorem dL_law_1024 : decode cL_law 1024 = .ok (.iload_n 3, 1) := by decide +kernel
theorem dL_law_1025 : decode cL_law 1025 = .ok (.iconst 1, 1) := by decide +kernel
theorem dL_law_1026 : decode cL_law 1026 = .ok (.iadd, 1) := by decide +kernel
theorem dL_law_1027 : decode cL_law 1027 = .ok (.iaload, 1) := by decide +kernel
theorem dL_law_1028 : decode cL_law 1028 = .ok (.aload_n 0, 1) := by decide +kernel
theorem dL_law_1029 : decode cL_law 1029 = .ok (.iload_n 3, 1) := by decide +kernel
theorem dL_law_1030 : decode cL_law 1030 = .ok (.iconst 2, 1) := by decide +kernel
theorem dL_law_1031 : decode cL_law 1031 = .ok (.iadd, 1) := by decide +kernel
theorem dL_law_1032 : decode cL_law 1032 = .ok (.iaload, 1) := by decide +kernel
theorem dL_law_1033 : decode cL_law 1033 = .ok (.invokevirtual 104, 3) := by decide +kernel
theorem dL_law_1036 : decode cL_law 1036 = .ok (.if_icmp .eq 235, 3) := by decide +kernel
theorem dL_law_1039 : decode cL_law 1039 = .ok (.iconst 0, 1) := by decide +kernel
theorem dL_law_1040 : decode cL_law 1040 = .ok (.ireturn, 1) := by decide +kernel
theorem dL_law_1041 : decode cL_law 1041 = .ok (.aload_n 1, 1) := by decide +kernel
theorem dL_law_1042 : decode cL_law 1042 = .ok (.aload_n 0, 1) := by decide +kernel
theorem dL_law_1043 : decode cL_law 1043 = .ok (.iload_n 3, 1) := by decide +kernel
theorem dL_law_1044 : decode cL_law 1044 = .ok (.iconst 1, 1) := by decide +kernel
theorem dL_law_1045 : decode cL_law 1045 = .ok (.iadd, 1) := by decide +kernel
theorem dL_law_1046 : decode cL_law 1046 = .ok (.iaload, 1) := by decide +kernel
theorem dL_law_1047 : decode cL_law 1047 = .ok (.aload_n 0, 1) := by decide +kernel
theorem dL_law_1048 : decode cL_law 1048 = .ok (.iload_n 3, 1) := by decide +kernel
theorem dL_law_1049 : decode cL_law 1049 = .ok (.iconst 2, 1) := by decide +kernel
theorem dL_law_1050 : decode cL_law 1050 = .ok (.iadd, 1) := by decide +kernel
theorem dL_law_1051 : decode cL_law 1051 = .ok (.iaload, 1) := by decide +kernel
theorem dL_law_1052 : decode cL_law 1052 = .ok (.aload_n 0, 1) := by decide +kernel
theorem dL_law_1053 : decode cL_law 1053 = .ok (.iload_n 3, 1) := by decide +kernel
theorem dL_law_1054 : decode cL_law 1054 = .ok (.iconst 3, 1) := by decide +kernel
theorem dL_law_1055 : decode cL_law 1055 = .ok (.iadd, 1) := by decide +kernel
theorem dL_law_1056 : decode cL_law 1056 = .ok (.iaload, 1) := by decide +kernel
theorem dL_law_1057 : decode cL_law 1057 = .ok (.invokevirtual 105, 3) := by decide +kernel
theorem dL_law_1060 : decode cL_law 1060 = .ok (.aload_n 2, 1) := by decide +kernel
theorem dL_law_1061 : decode cL_law 1061 = .ok (.aload_n 0, 1) := by decide +kernel
theorem dL_law_1062 : decode cL_law 1062 = .ok (.iload_n 3, 1) := by decide +kernel
theorem dL_law_1063 : decode cL_law 1063 = .ok (.iconst 1, 1) := by decide +kernel
theorem dL_law_1064 : decode cL_law 1064 = .ok (.iadd, 1) := by decide +kernel
theorem dL_law_1065 : decode cL_law 1065 = .ok (.iaload, 1) := by decide +kernel
theorem dL_law_1066 : decode cL_law 1066 = .ok (.aload_n 0, 1) := by decide +kernel
theorem dL_law_1067 : decode cL_law 1067 = .ok (.iload_n 3, 1) := by decide +kernel
theorem dL_law_1068 : decode cL_law 1068 = .ok (.iconst 2, 1) := by decide +kernel
theorem dL_law_1069 : decode cL_law 1069 = .ok (.iadd, 1) := by decide +kernel
theorem dL_law_1070 : decode cL_law 1070 = .ok (.iaload, 1) := by decide +kernel
theorem dL_law_1071 : decode cL_law 1071 = .ok (.aload_n 0, 1) := by decide +kernel
theorem dL_law_1072 : decode cL_law 1072 = .ok (.iload_n 3, 1) := by decide +kernel
theorem dL_law_1073 : decode cL_law 1073 = .ok (.iconst 3, 1) := by decide +kernel
theorem dL_law_1074 : decode cL_law 1074 = .ok (.iadd, 1) := by decide +kernel
theorem dL_law_1075 : decode cL_law 1075 = .ok (.iaload, 1) := by decide +kernel
theorem dL_law_1076 : decode cL_law 1076 = .ok (.invokevirtual 108, 3) := by decide +kernel
theorem dL_law_1079 : decode cL_law 1079 = .ok (.if_icmp .eq 192, 3) := by decide +kernel
theorem dL_law_1082 : decode cL_law 1082 = .ok (.iconst 0, 1) := by decide +kernel
theorem dL_law_1083 : decode cL_law 1083 = .ok (.ireturn, 1) := by decide +kernel
theorem dL_law_1084 : decode cL_law 1084 = .ok (.aload_n 1, 1) := by decide +kernel
theorem dL_law_1085 : decode cL_law 1085 = .ok (.aload_n 0, 1) := by decide +kernel
theorem dL_law_1086 : decode cL_law 1086 = .ok (.iload_n 3, 1) := by decide +kernel
theorem dL_law_1087 : decode cL_law 1087 = .ok (.iconst 1, 1) := by decide +kernel
theorem dL_law_1088 : decode cL_law 1088 = .ok (.iadd, 1) := by decide +kernel
theorem dL_law_1089 : decode cL_law 1089 = .ok (.iaload, 1) := by decide +kernel
theorem dL_law_1090 : decode cL_law 1090 = .ok (.invokevirtual 109, 3) := by decide +kernel
theorem dL_law_1093 : decode cL_law 1093 = .ok (.aload_n 2, 1) := by decide +kernel
theorem dL_law_1094 : decode cL_law 1094 = .ok (.aload_n 0, 1) := by decide +kernel
theorem dL_law_1095 : decode cL_law 1095 = .ok (.iload_n 3, 1) := by decide +kernel
theorem dL_law_1096 : decode cL_law 1096 = .ok (.iconst 1, 1) := by decide +kernel
theorem dL_law_1097 : decode cL_law 1097 = .ok (.iadd, 1) := by decide +kernel
theorem dL_law_1098 : decode cL_law 1098 = .ok (.iaload, 1) := by decide +kernel
theorem dL_law_1099 : decode cL_law 1099 = .ok (.invokevirtual 113, 3) := by decide +kernel
theorem dL_law_1102 : decode cL_law 1102 = .ok (.lcmp, 1) := by decide +kernel
theorem dL_law_1103 : decode cL_law 1103 = .ok (.ifCond .eq 168, 3) := by decide +kernel
theorem dL_law_1106 : decode cL_law 1106 = .ok (.iconst 0, 1) := by decide +kernel
theorem dL_law_1107 : decode cL_law 1107 = .ok (.ireturn, 1) := by decide +kernel
theorem dL_law_1108 : decode cL_law 1108 = .ok (.aload_n 1, 1) := by decide +kernel
theorem dL_law_1109 : decode cL_law 1109 = .ok (.aload_n 0, 1) := by decide +kernel
theorem dL_law_1110 : decode cL_law 1110 = .ok (.iload_n 3, 1) := by decide +kernel
theorem dL_law_1111 : decode cL_law 1111 = .ok (.iconst 1, 1) := by decide +kernel
theorem dL_law_1112 : decode cL_law 1112 = .ok (.iadd, 1) := by decide +kernel
theorem dL_law_1113 : decode cL_law 1113 = .ok (.iaload, 1) := by decide +kernel
theorem dL_law_1114 : decode cL_law 1114 = .ok (.aload_n 0, 1) := by decide +kernel
theorem dL_law_1115 : decode cL_law 1115 = .ok (.iload_n 3, 1) := by decide +kernel
theorem dL_law_1116 : decode cL_law 1116 = .ok (.iconst 2, 1) := by decide +kernel
theorem dL_law_1117 : decode cL_law 1117 = .ok (.iadd, 1) := by decide +kernel
theorem dL_law_1118 : decode cL_law 1118 = .ok (.iaload, 1) := by decide +kernel
theorem dL_law_1119 : decode cL_law 1119 = .ok (.aload_n 0, 1) := by decide +kernel
theorem dL_law_1120 : decode cL_law 1120 = .ok (.iload_n 3, 1) := by decide +kernel
theorem dL_law_1121 : decode cL_law 1121 = .ok (.iconst 3, 1) := by decide +kernel
theorem dL_law_1122 : decode cL_law 1122 = .ok (.iadd, 1) := by decide +kernel
theorem dL_law_1123 : decode cL_law 1123 = .ok (.iaload, 1) := by decide +kernel
theorem dL_law_1124 : decode cL_law 1124 = .ok (.invokevirtual 114, 3) := by decide +kernel
theorem dL_law_1127 : decode cL_law 1127 = .ok (.aload_n 2, 1) := by decide +kernel
theorem dL_law_1128 : decode cL_law 1128 = .ok (.aload_n 0, 1) := by decide +kernel
theorem dL_law_1129 : decode cL_law 1129 = .ok (.iload_n 3, 1) := by decide +kernel
theorem dL_law_1130 : decode cL_law 1130 = .ok (.iconst 1, 1) := by decide +kernel
theorem dL_law_1131 : decode cL_law 1131 = .ok (.iadd, 1) := by decide +kernel
theorem dL_law_1132 : decode cL_law 1132 = .ok (.iaload, 1) := by decide +kernel
theorem dL_law_1133 : decode cL_law 1133 = .ok (.aload_n 0, 1) := by decide +kernel
theorem dL_law_1134 : decode cL_law 1134 = .ok (.iload_n 3, 1) := by decide +kernel
theorem dL_law_1135 : decode cL_law 1135 = .ok (.iconst 2, 1) := by decide +kernel
theorem dL_law_1136 : decode cL_law 1136 = .ok (.iadd, 1) := by decide +kernel
theorem dL_law_1137 : decode cL_law 1137 = .ok (.iaload, 1) := by decide +kernel
theorem dL_law_1138 : decode cL_law 1138 = .ok (.aload_n 0, 1) := by decide +kernel
theorem dL_law_1139 : decode cL_law 1139 = .ok (.iload_n 3, 1) := by decide +kernel
theorem dL_law_1140 : decode cL_law 1140 = .ok (.iconst 3, 1) := by decide +kernel
theorem dL_law_1141 : decode cL_law 1141 = .ok (.iadd, 1) := by decide +kernel
theorem dL_law_1142 : decode cL_law 1142 = .ok (.iaload, 1) := by decide +kernel
theorem dL_law_1143 : decode cL_law 1143 = .ok (.invokevirtual 118, 3) := by decide +kernel
theorem dL_law_1146 : decode cL_law 1146 = .ok (.lcmp, 1) := by decide +kernel
theorem dL_law_1147 : decode cL_law 1147 = .ok (.ifCond .eq 124, 3) := by decide +kernel
theorem dL_law_1150 : decode cL_law 1150 = .ok (.iconst 0, 1) := by decide +kernel
theorem dL_law_1151 : decode cL_law 1151 = .ok (.ireturn, 1) := by decide +kernel
theorem dL_law_1152 : decode cL_law 1152 = .ok (.aload_n 1, 1) := by decide +kernel
theorem dL_law_1153 : decode cL_law 1153 = .ok (.aload_n 0, 1) := by decide +kernel
theorem dL_law_1154 : decode cL_law 1154 = .ok (.iload_n 3, 1) := by decide +kernel
theorem dL_law_1155 : decode cL_law 1155 = .ok (.iconst 1, 1) := by decide +kernel
theorem dL_law_1156 : decode cL_law 1156 = .ok (.iadd, 1) := by decide +kernel
theorem dL_law_1157 : decode cL_law 1157 = .ok (.iaload, 1) := by decide +kernel
theorem dL_law_1158 : decode cL_law 1158 = .ok (.aload_n 0, 1) := by decide +kernel
theorem dL_law_1159 : decode cL_law 1159 = .ok (.iload_n 3, 1) := by decide +kernel
theorem dL_law_1160 : decode cL_law 1160 = .ok (.iconst 2, 1) := by decide +kernel
theorem dL_law_1161 : decode cL_law 1161 = .ok (.iadd, 1) := by decide +kernel
theorem dL_law_1162 : decode cL_law 1162 = .ok (.iaload, 1) := by decide +kernel
theorem dL_law_1163 : decode cL_law 1163 = .ok (.invokevirtual 119, 3) := by decide +kernel
theorem dL_law_1166 : decode cL_law 1166 = .ok (.aload_n 2, 1) := by decide +kernel
theorem dL_law_1167 : decode cL_law 1167 = .ok (.aload_n 0, 1) := by decide +kernel
theorem dL_law_1168 : decode cL_law 1168 = .ok (.iload_n 3, 1) := by decide +kernel
theorem dL_law_1169 : decode cL_law 1169 = .ok (.iconst 1, 1) := by decide +kernel
theorem dL_law_1170 : decode cL_law 1170 = .ok (.iadd, 1) := by decide +kernel
theorem dL_law_1171 : decode cL_law 1171 = .ok (.iaload, 1) := by decide +kernel
theorem dL_law_1172 : decode cL_law 1172 = .ok (.aload_n 0, 1) := by decide +kernel
theorem dL_law_1173 : decode cL_law 1173 = .ok (.iload_n 3, 1) := by decide +kernel
theorem dL_law_1174 : decode cL_law 1174 = .ok (.iconst 2, 1) := by decide +kernel
theorem dL_law_1175 : decode cL_law 1175 = .ok (.iadd, 1) := by decide +kernel
theorem dL_law_1176 : decode cL_law 1176 = .ok (.iaload, 1) := by decide +kernel
theorem dL_law_1177 : decode cL_law 1177 = .ok (.invokevirtual 122, 3) := by decide +kernel
theorem dL_law_1180 : decode cL_law 1180 = .ok (.if_icmp .eq 91, 3) := by decide +kernel
theorem dL_law_1183 : decode cL_law 1183 = .ok (.iconst 0, 1) := by decide +kernel
theorem dL_law_1184 : decode cL_law 1184 = .ok (.ireturn, 1) := by decide +kernel
theorem dL_law_1185 : decode cL_law 1185 = .ok (.aload_n 1, 1) := by decide +kernel
theorem dL_law_1186 : decode cL_law 1186 = .ok (.invokevirtual 123, 3) := by decide +kernel
theorem dL_law_1189 : decode cL_law 1189 = .ok (.aload_n 2, 1) := by decide +kernel
theorem dL_law_1190 : decode cL_law 1190 = .ok (.invokevirtual 126, 3) := by decide +kernel
theorem dL_law_1193 : decode cL_law 1193 = .ok (.if_icmp .eq 78, 3) := by decide +kernel
theorem dL_law_1196 : decode cL_law 1196 = .ok (.iconst 0, 1) := by decide +kernel
theorem dL_law_1197 : decode cL_law 1197 = .ok (.ireturn, 1) := by decide +kernel
theorem dL_law_1198 : decode cL_law 1198 = .ok (.aload_n 1, 1) := by decide +kernel
theorem dL_law_1199 : decode cL_law 1199 = .ok (.invokevirtual 127, 3) := by decide +kernel
theorem dL_law_1202 : decode cL_law 1202 = .ok (.aload_n 2, 1) := by decide +kernel
theorem dL_law_1203 : decode cL_law 1203 = .ok (.invokevirtual 130, 3) := by decide +kernel
theorem dL_law_1206 : decode cL_law 1206 = .ok (.if_icmp .eq 65, 3) := by decide +kernel
theorem dL_law_1209 : decode cL_law 1209 = .ok (.iconst 0, 1) := by decide +kernel
theorem dL_law_1210 : decode cL_law 1210 = .ok (.ireturn, 1) := by decide +kernel
theorem dL_law_1211 : decode cL_law 1211 = .ok (.aload_n 1, 1) := by decide +kernel
theorem dL_law_1212 : decode cL_law 1212 = .ok (.aload_n 0, 1) := by decide +kernel
theorem dL_law_1213 : decode cL_law 1213 = .ok (.iload_n 3, 1) := by decide +kernel
theorem dL_law_1214 : decode cL_law 1214 = .ok (.iconst 1, 1) := by decide +kernel
theorem dL_law_1215 : decode cL_law 1215 = .ok (.iadd, 1) := by decide +kernel
theorem dL_law_1216 : decode cL_law 1216 = .ok (.iaload, 1) := by decide +kernel
theorem dL_law_1217 : decode cL_law 1217 = .ok (.invokevirtual 131, 3) := by decide +kernel
theorem dL_law_1220 : decode cL_law 1220 = .ok (.aload_n 2, 1) := by decide +kernel
theorem dL_law_1221 : decode cL_law 1221 = .ok (.aload_n 0, 1) := by decide +kernel
theorem dL_law_1222 : decode cL_law 1222 = .ok (.iload_n 3, 1) := by decide +kernel
theorem dL_law_1223 : decode cL_law 1223 = .ok (.iconst 1, 1) := by decide +kernel
theorem dL_law_1224 : decode cL_law 1224 = .ok (.iadd, 1) := by decide +kernel
theorem dL_law_1225 : decode cL_law 1225 = .ok (.iaload, 1) := by decide +kernel
theorem dL_law_1226 : decode cL_law 1226 = .ok (.invokevirtual 134, 3) := by decide +kernel
theorem dL_law_1229 : decode cL_law 1229 = .ok (.if_icmp .eq 42, 3) := by decide +kernel
theorem dL_law_1232 : decode cL_law 1232 = .ok (.iconst 0, 1) := by decide +kernel
theorem dL_law_1233 : decode cL_law 1233 = .ok (.ireturn, 1) := by decide +kernel
theorem dL_law_1234 : decode cL_law 1234 = .ok (.aload_n 1, 1) := by decide +kernel
theorem dL_law_1235 : decode cL_law 1235 = .ok (.aload_n 0, 1) := by decide +kernel
theorem dL_law_1236 : decode cL_law 1236 = .ok (.iload_n 3, 1) := by decide +kernel
theorem dL_law_1237 : decode cL_law 1237 = .ok (.iconst 1, 1) := by decide +kernel
theorem dL_law_1238 : decode cL_law 1238 = .ok (.iadd, 1) := by decide +kernel
theorem dL_law_1239 : decode cL_law 1239 = .ok (.iaload, 1) := by decide +kernel
theorem dL_law_1240 : decode cL_law 1240 = .ok (.invokevirtual 135, 3) := by decide +kernel
theorem dL_law_1243 : decode cL_law 1243 = .ok (.aload_n 2, 1) := by decide +kernel
theorem dL_law_1244 : decode cL_law 1244 = .ok (.aload_n 0, 1) := by decide +kernel
theorem dL_law_1245 : decode cL_law 1245 = .ok (.iload_n 3, 1) := by decide +kernel
theorem dL_law_1246 : decode cL_law 1246 = .ok (.iconst 1, 1) := by decide +kernel
theorem dL_law_1247 : decode cL_law 1247 = .ok (.iadd, 1) := by decide +kernel
theorem dL_law_1248 : decode cL_law 1248 = .ok (.iaload, 1) := by decide +kernel
theorem dL_law_1249 : decode cL_law 1249 = .ok (.invokevirtual 138, 3) := by decide +kernel
theorem dL_law_1252 : decode cL_law 1252 = .ok (.if_icmp .eq 19, 3) := by decide +kernel
theorem dL_law_1255 : decode cL_law 1255 = .ok (.iconst 0, 1) := by decide +kernel
theorem dL_law_1256 : decode cL_law 1256 = .ok (.ireturn, 1) := by decide +kernel
theorem dL_law_1257 : decode cL_law 1257 = .ok (.aload_n 1, 1) := by decide +kernel
theorem dL_law_1258 : decode cL_law 1258 = .ok (.invokevirtual 139, 3) := by decide +kernel
theorem dL_law_1261 : decode cL_law 1261 = .ok (.aload_n 2, 1) := by decide +kernel
theorem dL_law_1262 : decode cL_law 1262 = .ok (.invokevirtual 143, 3) := by decide +kernel
theorem dL_law_1265 : decode cL_law 1265 = .ok (.lcmp, 1) := by decide +kernel
theorem dL_law_1266 : decode cL_law 1266 = .ok (.ifCond .eq 5, 3) := by decide +kernel
theorem dL_law_1269 : decode cL_law 1269 = .ok (.iconst 0, 1) := by decide +kernel
theorem dL_law_1270 : decode cL_law 1270 = .ok (.ireturn, 1) := by decide +kernel
theorem dL_law_1271 : decode cL_law 1271 = .ok (.iinc 3 6, 3) := by decide +kernel
theorem dL_law_1274 : decode cL_law 1274 = .ok (.goto (-1256), 3) := by decide +kernel
theorem dL_law_1277 : decode cL_law 1277 = .ok (.iconst 1, 1) := by decide +kernel
theorem dL_law_1278 : decode cL_law 1278 = .ok (.ireturn, 1) := by decide +kernel
end
section
theorem dX5_init_0 : decode cX5_init 0 = .ok (.aload_n 0, 1) := by decide +kernel
theorem dX5_init_1 : decode cX5_init 1 = .ok (.invokespecial 1, 3) := by decide +kernel
theorem dX5_init_4 : decode cX5_init 4 = .ok (.aload_n 0, 1) := by decide +kernel
theorem dX5_init_5 : decode cX5_init 5 = .ok (.bipush 6, 2) := by decide +kernel
theorem dX5_init_7 : decode cX5_init 7 = .ok (.newarray .boolean, 2) := by decide +kernel
theorem dX5_init_9 : decode cX5_init 9 = .ok (.putfield 7, 3) := by decide +kernel
theorem dX5_init_12 : decode cX5_init 12 = .ok (.aload_n 0, 1) := by decide +kernel
theorem dX5_init_13 : decode cX5_init 13 = .ok (.bipush 6, 2) := by decide +kernel
theorem dX5_init_15 : decode cX5_init 15 = .ok (.newarray .int, 2) := by decide +kernel
theorem dX5_init_17 : decode cX5_init 17 = .ok (.putfield 13, 3) := by decide +kernel
theorem dX5_init_20 : decode cX5_init 20 = .ok (.aload_n 0, 1) := by decide +kernel
theorem dX5_init_21 : decode cX5_init 21 = .ok (.bipush 6, 2) := by decide +kernel
theorem dX5_init_23 : decode cX5_init 23 = .ok (.newarray .int, 2) := by decide +kernel
theorem dX5_init_25 : decode cX5_init 25 = .ok (.putfield 17, 3) := by decide +kernel
theorem dX5_init_28 : decode cX5_init 28 = .ok (.aload_n 0, 1) := by decide +kernel
theorem dX5_init_29 : decode cX5_init 29 = .ok (.bipush 6, 2) := by decide +kernel
theorem dX5_init_31 : decode cX5_init 31 = .ok (.newarray .int, 2) := by decide +kernel
theorem dX5_init_33 : decode cX5_init 33 = .ok (.putfield 20, 3) := by decide +kernel
theorem dX5_init_36 : decode cX5_init 36 = .ok (.aload_n 0, 1) := by decide +kernel
theorem dX5_init_37 : decode cX5_init 37 = .ok (.sipush 2400, 3) := by decide +kernel
theorem dX5_init_40 : decode cX5_init 40 = .ok (.newarray .int, 2) := by decide +kernel
theorem dX5_init_42 : decode cX5_init 42 = .ok (.putfield 23, 3) := by decide +kernel
theorem dX5_init_45 : decode cX5_init 45 = .ok (.aload_n 0, 1) := by decide +kernel
theorem dX5_init_46 : decode cX5_init 46 = .ok (.sipush 400, 3) := by decide +kernel
theorem dX5_init_49 : decode cX5_init 49 = .ok (.newarray .boolean, 2) := by decide +kernel
theorem dX5_init_51 : decode cX5_init 51 = .ok (.putfield 26, 3) := by decide +kernel
theorem dX5_init_54 : decode cX5_init 54 = .ok (.aload_n 0, 1) := by decide +kernel
theorem dX5_init_55 : decode cX5_init 55 = .ok (.iconst 4, 1) := by decide +kernel
theorem dX5_init_56 : decode cX5_init 56 = .ok (.newarray .int, 2) := by decide +kernel
theorem dX5_init_58 : decode cX5_init 58 = .ok (.putfield 29, 3) := by decide +kernel
theorem dX5_init_61 : decode cX5_init 61 = .ok (.aload_n 0, 1) := by decide +kernel
theorem dX5_init_62 : decode cX5_init 62 = .ok (.iconst 4, 1) := by decide +kernel
theorem dX5_init_63 : decode cX5_init 63 = .ok (.newarray .int, 2) := by decide +kernel
theorem dX5_init_65 : decode cX5_init 65 = .ok (.putfield 32, 3) := by decide +kernel
theorem dX5_init_68 : decode cX5_init 68 = .ok (.aload_n 0, 1) := by decide +kernel
theorem dX5_init_69 : decode cX5_init 69 = .ok (.iconst 4, 1) := by decide +kernel
theorem dX5_init_70 : decode cX5_init 70 = .ok (.newarray .int, 2) := by decide +kernel
theorem dX5_init_72 : decode cX5_init 72 = .ok (.putfield 35, 3) := by decide +kernel
theorem dX5_init_75 : decode cX5_init 75 = .ok (.aload_n 0, 1) := by decide +kernel
theorem dX5_init_76 : decode cX5_init 76 = .ok (.iconst 4, 1) := by decide +kernel
theorem dX5_init_77 : decode cX5_init 77 = .ok (.newarray .int, 2) := by decide +kernel
theorem dX5_init_79 : decode cX5_init 79 = .ok (.putfield 38, 3) := by decide +kernel
theorem dX5_init_82 : decode cX5_init 82 = .ok (.aload_n 0, 1) := by decide +kernel
theorem dX5_init_83 : decode cX5_init 83 = .ok (.bipush 80, 2) := by decide +kernel
theorem dX5_init_85 : decode cX5_init 85 = .ok (.newarray .long, 2) := by decide +kernel
theorem dX5_init_87 : decode cX5_init 87 = .ok (.putfield 41, 3) := by decide +kernel
theorem dX5_init_90 : decode cX5_init 90 = .ok (.aload_n 0, 1) := by decide +kernel
theorem dX5_init_91 : decode cX5_init 91 = .ok (.iconst 4, 1) := by decide +kernel
theorem dX5_init_92 : decode cX5_init 92 = .ok (.newarray .boolean, 2) := by decide +kernel
theorem dX5_init_94 : decode cX5_init 94 = .ok (.putfield 45, 3) := by decide +kernel
theorem dX5_init_97 : decode cX5_init 97 = .ok (.aload_n 0, 1) := by decide +kernel
theorem dX5_init_98 : decode cX5_init 98 = .ok (.iconst 4, 1) := by decide +kernel
theorem dX5_init_99 : decode cX5_init 99 = .ok (.newarray .int, 2) := by decide +kernel
theorem dX5_init_101 : decode cX5_init 101 = .ok (.putfield 48, 3) := by decide +kernel
theorem dX5_init_104 : decode cX5_init 104 = .ok (.aload_n 0, 1) := by decide +kernel
theorem dX5_init_105 : decode cX5_init 105 = .ok (.iconst 4, 1) := by decide +kernel
theorem dX5_init_106 : decode cX5_init 106 = .ok (.newarray .int, 2) := by decide +kernel
theorem dX5_init_108 : decode cX5_init 108 = .ok (.putfield 51, 3) := by decide +kernel
theorem dX5_init_111 : decode cX5_init 111 = .ok (.aload_n 0, 1) := by decide +kernel
theorem dX5_init_112 : decode cX5_init 112 = .ok (.iconst 4, 1) := by decide +kernel
theorem dX5_init_113 : decode cX5_init 113 = .ok (.newarray .int, 2) := by decide +kernel
theorem dX5_init_115 : decode cX5_init 115 = .ok (.putfield 54, 3) := by decide +kernel
theorem dX5_init_118 : decode cX5_init 118 = .ok (.aload_n 0, 1) := by decide +kernel
theorem dX5_init_119 : decode cX5_init 119 = .ok (.bipush 12, 2) := by decide +kernel
theorem dX5_init_121 : decode cX5_init 121 = .ok (.newarray .int, 2) := by decide +kernel
theorem dX5_init_123 : decode cX5_init 123 = .ok (.putfield 57, 3) := by decide +kernel
theorem dX5_init_126 : decode cX5_init 126 = .ok (.aload_n 0, 1) := by decide +kernel
theorem dX5_init_127 : decode cX5_init 127 = .ok (.bipush 60, 2) := by decide +kernel
theorem dX5_init_129 : decode cX5_init 129 = .ok (.newarray .long, 2) := by decide +kernel
theorem dX5_init_131 : decode cX5_init 131 = .ok (.putfield 60, 3) := by decide +kernel
theorem dX5_init_134 : decode cX5_init 134 = .ok (.aload_n 0, 1) := by decide +kernel
theorem dX5_init_135 : decode cX5_init 135 = .ok (.bipush 6, 2) := by decide +kernel
theorem dX5_init_137 : decode cX5_init 137 = .ok (.newarray .int, 2) := by decide +kernel
theorem dX5_init_139 : decode cX5_init 139 = .ok (.putfield 63, 3) := by decide +kernel
theorem dX5_init_142 : decode cX5_init 142 = .ok (.aload_n 0, 1) := by decide +kernel
theorem dX5_init_143 : decode cX5_init 143 = .ok (.bipush 20, 2) := by decide +kernel
theorem dX5_init_145 : decode cX5_init 145 = .ok (.newarray .int, 2) := by decide +kernel
theorem dX5_init_147 : decode cX5_init 147 = .ok (.putfield 66, 3) := by decide +kernel
theorem dX5_init_150 : decode cX5_init 150 = .ok (.return_, 1) := by decide +kernel
theorem dX5_in_0 : decode cX5_in 0 = .ok (.lload_n 0, 1) := by decide +kernel
theorem dX5_in_1 : decode cX5_in 1 = .ok (.lload_n 2, 1) := by decide +kernel
theorem dX5_in_2 : decode cX5_in 2 = .ok (.lcmp, 1) := by decide +kernel
theorem dX5_in_3 : decode cX5_in 3 = .ok (.ifCond .lt 14, 3) := by decide +kernel
theorem dX5_in_6 : decode cX5_in 6 = .ok (.lload_n 0, 1) := by decide +kernel
theorem dX5_in_7 : decode cX5_in 7 = .ok (.lload 4, 2) := by decide +kernel
theorem dX5_in_9 : decode cX5_in 9 = .ok (.lcmp, 1) := by decide +kernel
theorem dX5_in_10 : decode cX5_in 10 = .ok (.ifCond .gt 7, 3) := by decide +kernel
theorem dX5_in_13 : decode cX5_in 13 = .ok (.iconst 1, 1) := by decide +kernel
theorem dX5_in_14 : decode cX5_in 14 = .ok (.goto 4, 3) := by decide +kernel
theorem dX5_in_17 : decode cX5_in 17 = .ok (.iconst 0, 1) := by decide +kernel
theorem dX5_in_18 : decode cX5_in 18 = .ok (.ireturn, 1) := by decide +kernel
theorem dX5_met_0 : decode cX5_met 0 = .ok (.aload_n 0, 1) := by decide +kernel
theorem dX5_met_1 : decode cX5_met 1 = .ok (.bipush (-10), 2) := by decide +kernel
theorem dX5_met_3 : decode cX5_met 3 = .ok (.iload_n 1, 1) := by decide +kernel
theorem dX5_met_4 : decode cX5_met 4 = .ok (.isub, 1) := by decide +kernel
theorem dX5_met_5 : decode cX5_met 5 = .ok (.putfield 69, 3) := by decide +kernel
theorem dX5_met_8 : decode cX5_met 8 = .ok (.aload_n 0, 1) := by decide +kernel
theorem dX5_met_9 : decode cX5_met 9 = .ok (.getfield 63, 3) := by decide +kernel
theorem dX5_met_12 : decode cX5_met 12 = .ok (.aload_n 0, 1) := by decide +kernel
theorem dX5_met_13 : decode cX5_met 13 = .ok (.getfield 69, 3) := by decide +kernel
theorem dX5_met_16 : decode cX5_met 16 = .ok (.dup2, 1) := by decide +kernel
theorem dX5_met_17 : decode cX5_met 17 = .ok (.iaload, 1) := by decide +kernel
theorem dX5_met_18 : decode cX5_met 18 = .ok (.iconst 1, 1) := by decide +kernel
theorem dX5_met_19 : decode cX5_met 19 = .ok (.iadd, 1) := by decide +kernel
theorem dX5_met_20 : decode cX5_met 20 = .ok (.iastore, 1) := by decide +kernel
theorem dX5_met_21 : decode cX5_met 21 = .ok (.iload_n 1, 1) := by decide +kernel
theorem dX5_met_22 : decode cX5_met 22 = .ok (.ireturn, 1) := by decide +kernel
theorem dX5_floor_0 : decode cX5_floor 0 = .ok (.lload_n 0, 1) := by decide +kernel
theorem dX5_floor_1 : decode cX5_floor 1 = .ok (.lload_n 2, 1) := by decide +kernel
theorem dX5_floor_2 : decode cX5_floor 2 = .ok (.ldiv, 1) := by decide +kernel
theorem dX5_floor_3 : decode cX5_floor 3 = .ok (.lstore 4, 2) := by decide +kernel
theorem dX5_floor_5 : decode cX5_floor 5 = .ok (.lload_n 0, 1) := by decide +kernel
theorem dX5_floor_6 : decode cX5_floor 6 = .ok (.lload_n 2, 1) := by decide +kernel
theorem dX5_floor_7 : decode cX5_floor 7 = .ok (.lrem, 1) := by decide +kernel
theorem dX5_floor_8 : decode cX5_floor 8 = .ok (.lconst 0, 1) := by decide +kernel
theorem dX5_floor_9 : decode cX5_floor 9 = .ok (.lcmp, 1) := by decide +kernel
theorem dX5_floor_10 : decode cX5_floor 10 = .ok (.ifCond .eq 16, 3) := by decide +kernel
theorem dX5_floor_13 : decode cX5_floor 13 = .ok (.lload_n 0, 1) := by decide +kernel
theorem dX5_floor_14 : decode cX5_floor 14 = .ok (.lconst 0, 1) := by decide +kernel
theorem dX5_floor_15 : decode cX5_floor 15 = .ok (.lcmp, 1) := by decide +kernel
theorem dX5_floor_16 : decode cX5_floor 16 = .ok (.ifCond .ge 10, 3) := by decide +kernel
theorem dX5_floor_19 : decode cX5_floor 19 = .ok (.lload 4, 2) := by decide +kernel
theorem dX5_floor_21 : decode cX5_floor 21 = .ok (.lconst 1, 1) := by decide +kernel
theorem dX5_floor_22 : decode cX5_floor 22 = .ok (.lsub, 1) := by decide +kernel
theorem dX5_floor_23 : decode cX5_floor 23 = .ok (.goto 5, 3) := by decide +kernel
theorem dX5_floor_26 : decode cX5_floor 26 = .ok (.lload 4, 2) := by decide +kernel
theorem dX5_floor_28 : decode cX5_floor 28 = .ok (.lreturn, 1) := by decide +kernel
theorem dX5_isPlate_0 : decode cX5_isPlate 0 = .ok (.iload_n 0, 1) := by decide +kernel
theorem dX5_isPlate_1 : decode cX5_isPlate 1 = .ok (.i2l, 1) := by decide +kernel
theorem dX5_isPlate_2 : decode cX5_isPlate 2 = .ok (.lconst 0, 1) := by decide +kernel
theorem dX5_isPlate_3 : decode cX5_isPlate 3 = .ok (.ldc2_w 73, 3) := by decide +kernel
theorem dX5_isPlate_6 : decode cX5_isPlate 6 = .ok (.invokestatic 75, 3) := by decide +kernel
theorem dX5_isPlate_9 : decode cX5_isPlate 9 = .ok (.ireturn, 1) := by decide +kernel
theorem dX5_isComb_0 : decode cX5_isComb 0 = .ok (.iload_n 1, 1) := by decide +kernel
theorem dX5_isComb_1 : decode cX5_isComb 1 = .ok (.i2l, 1) := by decide +kernel
theorem dX5_isComb_2 : decode cX5_isComb 2 = .ok (.lconst 0, 1) := by decide +kernel
theorem dX5_isComb_3 : decode cX5_isComb 3 = .ok (.aload_n 0, 1) := by decide +kernel
theorem dX5_isComb_4 : decode cX5_isComb 4 = .ok (.getfield 79, 3) := by decide +kernel
theorem dX5_isComb_7 : decode cX5_isComb 7 = .ok (.iconst 1, 1) := by decide +kernel
theorem dX5_isComb_8 : decode cX5_isComb 8 = .ok (.isub, 1) := by decide +kernel
theorem dX5_isComb_9 : decode cX5_isComb 9 = .ok (.i2l, 1) := by decide +kernel
theorem dX5_isComb_10 : decode cX5_isComb 10 = .ok (.invokestatic 75, 3) := by decide +kernel
theorem dX5_isComb_13 : decode cX5_isComb 13 = .ok (.ireturn, 1) := by decide +kernel
theorem dX5_plate_0 : decode cX5_plate 0 = .ok (.iload_n 1, 1) := by decide +kernel
theorem dX5_plate_1 : decode cX5_plate 1 = .ok (.invokestatic 82, 3) := by decide +kernel
theorem dX5_plate_4 : decode cX5_plate 4 = .ok (.ifCond .ne 6, 3) := by decide +kernel
theorem dX5_plate_7 : decode cX5_plate 7 = .ok (.bipush (-101), 2) := by decide +kernel
theorem dX5_plate_9 : decode cX5_plate 9 = .ok (.ireturn, 1) := by decide +kernel
theorem dX5_plate_10 : decode cX5_plate 10 = .ok (.iload_n 2, 1) := by decide +kernel
theorem dX5_plate_11 : decode cX5_plate 11 = .ok (.i2l, 1) := by decide +kernel
theorem dX5_plate_12 : decode cX5_plate 12 = .ok (.lconst 0, 1) := by decide +kernel
theorem dX5_plate_13 : decode cX5_plate 13 = .ok (.ldc2_w 86, 3) := by decide +kernel
theorem dX5_plate_16 : decode cX5_plate 16 = .ok (.invokestatic 75, 3) := by decide +kernel
theorem dX5_plate_19 : decode cX5_plate 19 = .ok (.ifCond .eq 25, 3) := by decide +kernel
theorem dX5_plate_22 : decode cX5_plate 22 = .ok (.iload_n 3, 1) := by decide +kernel
theorem dX5_plate_23 : decode cX5_plate 23 = .ok (.ifCond .eq 21, 3) := by decide +kernel
theorem dX5_plate_26 : decode cX5_plate 26 = .ok (.iload_n 3, 1) := by decide +kernel
theorem dX5_plate_27 : decode cX5_plate 27 = .ok (.bipush 20, 2) := by decide +kernel
theorem dX5_plate_29 : decode cX5_plate 29 = .ok (.if_icmp .gt 15, 3) := by decide +kernel
theorem dX5_plate_32 : decode cX5_plate 32 = .ok (.iload 4, 2) := by decide +kernel
theorem dX5_plate_34 : decode cX5_plate 34 = .ok (.ifCond .eq 10, 3) := by decide +kernel
theorem dX5_plate_37 : decode cX5_plate 37 = .ok (.iload 4, 2) := by decide +kernel
theorem dX5_plate_39 : decode cX5_plate 39 = .ok (.bipush 20, 2) := by decide +kernel
theorem dX5_plate_41 : decode cX5_plate 41 = .ok (.if_icmp .le 6, 3) := by decide +kernel
theorem dX5_plate_44 : decode cX5_plate 44 = .ok (.bipush (-102), 2) := by decide +kernel
theorem dX5_plate_46 : decode cX5_plate 46 = .ok (.ireturn, 1) := by decide +kernel
theorem dX5_plate_47 : decode cX5_plate 47 = .ok (.iload_n 3, 1) := by decide +kernel
theorem dX5_plate_48 : decode cX5_plate 48 = .ok (.ifCond .lt 8, 3) := by decide +kernel
theorem dX5_plate_51 : decode cX5_plate 51 = .ok (.iload 4, 2) := by decide +kernel
theorem dX5_plate_53 : decode cX5_plate 53 = .ok (.ifCond .ge 10, 3) := by decide +kernel
theorem dX5_plate_56 : decode cX5_plate 56 = .ok (.aload_n 0, 1) := by decide +kernel
theorem dX5_plate_57 : decode cX5_plate 57 = .ok (.bipush (-13), 2) := by decide +kernel
theorem dX5_plate_59 : decode cX5_plate 59 = .ok (.invokevirtual 88, 3) := by decide +kernel
theorem dX5_plate_62 : decode cX5_plate 62 = .ok (.ireturn, 1) := by decide +kernel
theorem dX5_plate_63 : decode cX5_plate 63 = .ok (.aload_n 0, 1) := by decide +kernel
theorem dX5_plate_64 : decode cX5_plate 64 = .ok (.getfield 7, 3) := by decide +kernel
theorem dX5_plate_67 : decode cX5_plate 67 = .ok (.iload_n 1, 1) := by decide +kernel
theorem dX5_plate_68 : decode cX5_plate 68 = .ok (.iconst 1, 1) := by decide +kernel
theorem dX5_plate_69 : decode cX5_plate 69 = .ok (.bastore, 1) := by decide +kernel
theorem dX5_plate_70 : decode cX5_plate 70 = .ok (.aload_n 0, 1) := by decide +kernel
theorem dX5_plate_71 : decode cX5_plate 71 = .ok (.getfield 13, 3) := by decide +kernel
theorem dX5_plate_74 : decode cX5_plate 74 = .ok (.iload_n 1, 1) := by decide +kernel
theorem dX5_plate_75 : decode cX5_plate 75 = .ok (.iload_n 2, 1) := by decide +kernel
theorem dX5_plate_76 : decode cX5_plate 76 = .ok (.iastore, 1) := by decide +kernel
theorem dX5_plate_77 : decode cX5_plate 77 = .ok (.aload_n 0, 1) := by decide +kernel
theorem dX5_plate_78 : decode cX5_plate 78 = .ok (.getfield 17, 3) := by decide +kernel
theorem dX5_plate_81 : decode cX5_plate 81 = .ok (.iload_n 1, 1) := by decide +kernel
theorem dX5_plate_82 : decode cX5_plate 82 = .ok (.iload_n 3, 1) := by decide +kernel
theorem dX5_plate_83 : decode cX5_plate 83 = .ok (.iastore, 1) := by decide +kernel
theorem dX5_plate_84 : decode cX5_plate 84 = .ok (.aload_n 0, 1) := by decide +kernel
theorem dX5_plate_85 : decode cX5_plate 85 = .ok (.getfield 20, 3) := by decide +kernel
theorem dX5_plate_88 : decode cX5_plate 88 = .ok (.iload_n 1, 1) := by decide +kernel
theorem dX5_plate_89 : decode cX5_plate 89 = .ok (.iload 4, 2) := by decide +kernel
theorem dX5_plate_91 : decode cX5_plate 91 = .ok (.iastore, 1) := by decide +kernel
theorem dX5_plate_92 : decode cX5_plate 92 = .ok (.iconst 0, 1) := by decide +kernel
theorem dX5_plate_93 : decode cX5_plate 93 = .ok (.istore 5, 2) := by decide +kernel
theorem dX5_plate_95 : decode cX5_plate 95 = .ok (.iload 5, 2) := by decide +kernel
theorem dX5_plate_97 : decode cX5_plate 97 = .ok (.sipush 400, 3) := by decide +kernel
theorem dX5_plate_100 : decode cX5_plate 100 = .ok (.if_icmp .ge 23, 3) := by decide +kernel
theorem dX5_plate_103 : decode cX5_plate 103 = .ok (.aload_n 0, 1) := by decide +kernel
theorem dX5_plate_104 : decode cX5_plate 104 = .ok (.getfield 23, 3) := by decide +kernel
theorem dX5_plate_107 : decode cX5_plate 107 = .ok (.sipush 400, 3) := by decide +kernel
theorem dX5_plate_110 : decode cX5_plate 110 = .ok (.iload_n 1, 1) := by decide +kernel
theorem dX5_plate_111 : decode cX5_plate 111 = .ok (.imul, 1) := by decide +kernel
theorem dX5_plate_112 : decode cX5_plate 112 = .ok (.iload 5, 2) := by decide +kernel
theorem dX5_plate_114 : decode cX5_plate 114 = .ok (.iadd, 1) := by decide +kernel
theorem dX5_plate_115 : decode cX5_plate 115 = .ok (.iconst 0, 1) := by decide +kernel
theorem dX5_plate_116 : decode cX5_plate 116 = .ok (.iastore, 1) := by decide +kernel
theorem dX5_plate_117 : decode cX5_plate 117 = .ok (.iinc 5 1, 3) := by decide +kernel
theorem dX5_plate_120 : decode cX5_plate 120 = .ok (.goto (-25), 3) := by decide +kernel
theorem dX5_plate_123 : decode cX5_plate 123 = .ok (.iload_n 3, 1) := by decide +kernel
theorem dX5_plate_124 : decode cX5_plate 124 = .ok (.ireturn, 1) := by decide +kernel
theorem dX5_cast_0 : decode cX5_cast 0 = .ok (.iload_n 0, 1) := by decide +kernel
theorem dX5_cast_1 : decode cX5_cast 1 = .ok (.ifCond .ne 8, 3) := by decide +kernel
theorem dX5_cast_4 : decode cX5_cast 4 = .ok (.iload_n 1, 1) := by decide +kernel
theorem dX5_cast_5 : decode cX5_cast 5 = .ok (.i2b, 1) := by decide +kernel
theorem dX5_cast_6 : decode cX5_cast 6 = .ok (.goto 14, 3) := by decide +kernel
theorem dX5_cast_9 : decode cX5_cast 9 = .ok (.iload_n 0, 1) := by decide +kernel
theorem dX5_cast_10 : decode cX5_cast 10 = .ok (.iconst 1, 1) := by decide +kernel
theorem dX5_cast_11 : decode cX5_cast 11 = .ok (.if_icmp .ne 8, 3) := by decide +kernel
theorem dX5_cast_14 : decode cX5_cast 14 = .ok (.iload_n 1, 1) := by decide +kernel
theorem dX5_cast_15 : decode cX5_cast 15 = .ok (.i2s, 1) := by decide +kernel
theorem dX5_cast_16 : decode cX5_cast 16 = .ok (.goto 4, 3) := by decide +kernel
theorem dX5_cast_19 : decode cX5_cast 19 = .ok (.iload_n 1, 1) := by decide +kernel
theorem dX5_cast_20 : decode cX5_cast 20 = .ok (.ireturn, 1) := by decide +kernel
theorem dX5_isPlace_0 : decode cX5_isPlace 0 = .ok (.iload_n 2, 1) := by decide +kernel
theorem dX5_isPlace_1 : decode cX5_isPlace 1 = .ok (.i2l, 1) := by decide +kernel
theorem dX5_isPlace_2 : decode cX5_isPlace 2 = .ok (.lconst 0, 1) := by decide +kernel
theorem dX5_isPlace_3 : decode cX5_isPlace 3 = .ok (.aload_n 0, 1) := by decide +kernel
theorem dX5_isPlace_4 : decode cX5_isPlace 4 = .ok (.getfield 17, 3) := by decide +kernel
theorem dX5_isPlace_7 : decode cX5_isPlace 7 = .ok (.iload_n 1, 1) := by decide +kernel
theorem dX5_isPlace_8 : decode cX5_isPlace 8 = .ok (.iaload, 1) := by decide +kernel
theorem dX5_isPlace_9 : decode cX5_isPlace 9 = .ok (.iconst 1, 1) := by decide +kernel
theorem dX5_isPlace_10 : decode cX5_isPlace 10 = .ok (.isub, 1) := by decide +kernel
theorem dX5_isPlace_11 : decode cX5_isPlace 11 = .ok (.i2l, 1) := by decide +kernel
theorem dX5_isPlace_12 : decode cX5_isPlace 12 = .ok (.invokestatic 75, 3) := by decide +kernel
theorem dX5_isPlace_15 : decode cX5_isPlace 15 = .ok (.ifCond .eq 25, 3) := by decide +kernel
theorem dX5_isPlace_18 : decode cX5_isPlace 18 = .ok (.iload_n 3, 1) := by decide +kernel
theorem dX5_isPlace_19 : decode cX5_isPlace 19 = .ok (.i2l, 1) := by decide +kernel
theorem dX5_isPlace_20 : decode cX5_isPlace 20 = .ok (.lconst 0, 1) := by decide +kernel
theorem dX5_isPlace_21 : decode cX5_isPlace 21 = .ok (.aload_n 0, 1) := by decide +kernel
theorem dX5_isPlace_22 : decode cX5_isPlace 22 = .ok (.getfield 20, 3) := by decide +kernel
theorem dX5_isPlace_25 : decode cX5_isPlace 25 = .ok (.iload_n 1, 1) := by decide +kernel
theorem dX5_isPlace_26 : decode cX5_isPlace 26 = .ok (.iaload, 1) := by decide +kernel
theorem dX5_isPlace_27 : decode cX5_isPlace 27 = .ok (.iconst 1, 1) := by decide +kernel
theorem dX5_isPlace_28 : decode cX5_isPlace 28 = .ok (.isub, 1) := by decide +kernel
theorem dX5_isPlace_29 : decode cX5_isPlace 29 = .ok (.i2l, 1) := by decide +kernel
theorem dX5_isPlace_30 : decode cX5_isPlace 30 = .ok (.invokestatic 75, 3) := by decide +kernel
theorem dX5_isPlace_33 : decode cX5_isPlace 33 = .ok (.ifCond .eq 7, 3) := by decide +kernel
theorem dX5_isPlace_36 : decode cX5_isPlace 36 = .ok (.iconst 1, 1) := by decide +kernel
theorem dX5_isPlace_37 : decode cX5_isPlace 37 = .ok (.goto 4, 3) := by decide +kernel
theorem dX5_isPlace_40 : decode cX5_isPlace 40 = .ok (.iconst 0, 1) := by decide +kernel
theorem dX5_isPlace_41 : decode cX5_isPlace 41 = .ok (.ireturn, 1) := by decide +kernel
theorem dX5_place_0 : decode cX5_place 0 = .ok (.sipush 400, 3) := by decide +kernel
theorem dX5_place_3 : decode cX5_place 3 = .ok (.iload_n 0, 1) := by decide +kernel
theorem dX5_place_4 : decode cX5_place 4 = .ok (.imul, 1) := by decide +kernel
theorem dX5_place_5 : decode cX5_place 5 = .ok (.bipush 20, 2) := by decide +kernel
theorem dX5_place_7 : decode cX5_place 7 = .ok (.iload_n 2, 1) := by decide +kernel
theorem dX5_place_8 : decode cX5_place 8 = .ok (.imul, 1) := by decide +kernel
theorem dX5_place_9 : decode cX5_place 9 = .ok (.iadd, 1) := by decide +kernel
theorem dX5_place_10 : decode cX5_place 10 = .ok (.iload_n 1, 1) := by decide +kernel
theorem dX5_place_11 : decode cX5_place 11 = .ok (.iadd, 1) := by decide +kernel
theorem dX5_place_12 : decode cX5_place 12 = .ok (.ireturn, 1) := by decide +kernel
theorem dX5_put_0 : decode cX5_put 0 = .ok (.iload_n 1, 1) := by decide +kernel
theorem dX5_put_1 : decode cX5_put 1 = .ok (.invokestatic 82, 3) := by decide +kernel
theorem dX5_put_4 : decode cX5_put 4 = .ok (.ifCond .ne 6, 3) := by decide +kernel
theorem dX5_put_7 : decode cX5_put 7 = .ok (.bipush (-101), 2) := by decide +kernel
theorem dX5_put_9 : decode cX5_put 9 = .ok (.ireturn, 1) := by decide +kernel
theorem dX5_put_10 : decode cX5_put 10 = .ok (.iload_n 2, 1) := by decide +kernel
theorem dX5_put_11 : decode cX5_put 11 = .ok (.i2l, 1) := by decide +kernel
theorem dX5_put_12 : decode cX5_put 12 = .ok (.lconst 0, 1) := by decide +kernel
theorem dX5_put_13 : decode cX5_put 13 = .ok (.ldc2_w 86, 3) := by decide +kernel
theorem dX5_put_16 : decode cX5_put 16 = .ok (.invokestatic 75, 3) := by decide +kernel
theorem dX5_put_19 : decode cX5_put 19 = .ok (.ifCond .ne 6, 3) := by decide +kernel
theorem dX5_put_22 : decode cX5_put 22 = .ok (.bipush (-102), 2) := by decide +kernel
theorem dX5_put_24 : decode cX5_put 24 = .ok (.ireturn, 1) := by decide +kernel
theorem dX5_put_25 : decode cX5_put 25 = .ok (.aload_n 0, 1) := by decide +kernel
theorem dX5_put_26 : decode cX5_put 26 = .ok (.getfield 7, 3) := by decide +kernel
theorem dX5_put_29 : decode cX5_put 29 = .ok (.iload_n 1, 1) := by decide +kernel
theorem dX5_put_30 : decode cX5_put 30 = .ok (.baload, 1) := by decide +kernel
theorem dX5_put_31 : decode cX5_put 31 = .ok (.ifCond .ne 10, 3) := by decide +kernel
theorem dX5_put_34 : decode cX5_put 34 = .ok (.aload_n 0, 1) := by decide +kernel
theorem dX5_put_35 : decode cX5_put 35 = .ok (.bipush (-11), 2) := by decide +kernel
theorem dX5_put_37 : decode cX5_put 37 = .ok (.invokevirtual 88, 3) := by decide +kernel
theorem dX5_put_40 : decode cX5_put 40 = .ok (.ireturn, 1) := by decide +kernel
theorem dX5_put_41 : decode cX5_put 41 = .ok (.aload_n 0, 1) := by decide +kernel
theorem dX5_put_42 : decode cX5_put 42 = .ok (.getfield 13, 3) := by decide +kernel
theorem dX5_put_45 : decode cX5_put 45 = .ok (.iload_n 1, 1) := by decide +kernel
theorem dX5_put_46 : decode cX5_put 46 = .ok (.iaload, 1) := by decide +kernel
theorem dX5_put_47 : decode cX5_put 47 = .ok (.iload_n 2, 1) := by decide +kernel
theorem dX5_put_48 : decode cX5_put 48 = .ok (.if_icmp .eq 10, 3) := by decide +kernel
theorem dX5_put_51 : decode cX5_put 51 = .ok (.aload_n 0, 1) := by decide +kernel
theorem dX5_put_52 : decode cX5_put 52 = .ok (.bipush (-14), 2) := by decide +kernel
theorem dX5_put_54 : decode cX5_put 54 = .ok (.invokevirtual 88, 3) := by decide +kernel
theorem dX5_put_57 : decode cX5_put 57 = .ok (.ireturn, 1) := by decide +kernel
theorem dX5_put_58 : decode cX5_put 58 = .ok (.aload_n 0, 1) := by decide +kernel
theorem dX5_put_59 : decode cX5_put 59 = .ok (.iload_n 1, 1) := by decide +kernel
theorem dX5_put_60 : decode cX5_put 60 = .ok (.iload_n 3, 1) := by decide +kernel
theorem dX5_put_61 : decode cX5_put 61 = .ok (.iload 4, 2) := by decide +kernel
theorem dX5_put_63 : decode cX5_put 63 = .ok (.invokevirtual 92, 3) := by decide +kernel
theorem dX5_put_66 : decode cX5_put 66 = .ok (.ifCond .ne 10, 3) := by decide +kernel
theorem dX5_put_69 : decode cX5_put 69 = .ok (.aload_n 0, 1) := by decide +kernel
theorem dX5_put_70 : decode cX5_put 70 = .ok (.bipush (-12), 2) := by decide +kernel
theorem dX5_put_72 : decode cX5_put 72 = .ok (.invokevirtual 88, 3) := by decide +kernel
theorem dX5_put_75 : decode cX5_put 75 = .ok (.ireturn, 1) := by decide +kernel
theorem dX5_put_76 : decode cX5_put 76 = .ok (.aload_n 0, 1) := by decide +kernel
theorem dX5_put_77 : decode cX5_put 77 = .ok (.getfield 23, 3) := by decide +kernel
theorem dX5_put_80 : decode cX5_put 80 = .ok (.iload_n 1, 1) := by decide +kernel
theorem dX5_put_81 : decode cX5_put 81 = .ok (.iload_n 3, 1) := by decide +kernel
theorem dX5_put_82 : decode cX5_put 82 = .ok (.iload 4, 2) := by decide +kernel
theorem dX5_put_84 : decode cX5_put 84 = .ok (.invokestatic 96, 3) := by decide +kernel
theorem dX5_put_87 : decode cX5_put 87 = .ok (.iload_n 2, 1) := by decide +kernel
theorem dX5_put_88 : decode cX5_put 88 = .ok (.iload 5, 2) := by decide +kernel
theorem dX5_put_90 : decode cX5_put 90 = .ok (.invokestatic 100, 3) := by decide +kernel
theorem dX5_put_93 : decode cX5_put 93 = .ok (.iastore, 1) := by decide +kernel
theorem dX5_put_94 : decode cX5_put 94 = .ok (.iconst 1, 1) := by decide +kernel
theorem dX5_put_95 : decode cX5_put 95 = .ok (.ireturn, 1) := by decide +kernel
theorem dX5_isLike_0 : decode cX5_isLike 0 = .ok (.aload_n 0, 1) := by decide +kernel
theorem dX5_isLike_1 : decode cX5_isLike 1 = .ok (.getfield 17, 3) := by decide +kernel
theorem dX5_isLike_4 : decode cX5_isLike 4 = .ok (.iload_n 1, 1) := by decide +kernel
theorem dX5_isLike_5 : decode cX5_isLike 5 = .ok (.iaload, 1) := by decide +kernel
theorem dX5_isLike_6 : decode cX5_isLike 6 = .ok (.aload_n 0, 1) := by decide +kernel
theorem dX5_isLike_7 : decode cX5_isLike 7 = .ok (.getfield 17, 3) := by decide +kernel
theorem dX5_isLike_10 : decode cX5_isLike 10 = .ok (.iload_n 2, 1) := by decide +kernel
theorem dX5_isLike_11 : decode cX5_isLike 11 = .ok (.iaload, 1) := by decide +kernel
theorem dX5_isLike_12 : decode cX5_isLike 12 = .ok (.if_icmp .ne 22, 3) := by decide +kernel
theorem dX5_isLike_15 : decode cX5_isLike 15 = .ok (.aload_n 0, 1) := by decide +kernel
theorem dX5_isLike_16 : decode cX5_isLike 16 = .ok (.getfield 20, 3) := by decide +kernel
theorem dX5_isLike_19 : decode cX5_isLike 19 = .ok (.iload_n 1, 1) := by decide +kernel
theorem dX5_isLike_20 : decode cX5_isLike 20 = .ok (.iaload, 1) := by decide +kernel
theorem dX5_isLike_21 : decode cX5_isLike 21 = .ok (.aload_n 0, 1) := by decide +kernel
theorem dX5_isLike_22 : decode cX5_isLike 22 = .ok (.getfield 20, 3) := by decide +kernel
theorem dX5_isLike_25 : decode cX5_isLike 25 = .ok (.iload_n 2, 1) := by decide +kernel
theorem dX5_isLike_26 : decode cX5_isLike 26 = .ok (.iaload, 1) := by decide +kernel
theorem dX5_isLike_27 : decode cX5_isLike 27 = .ok (.if_icmp .ne 7, 3) := by decide +kernel
theorem dX5_isLike_30 : decode cX5_isLike 30 = .ok (.iconst 1, 1) := by decide +kernel
theorem dX5_isLike_31 : decode cX5_isLike 31 = .ok (.goto 4, 3) := by decide +kernel
theorem dX5_isLike_34 : decode cX5_isLike 34 = .ok (.iconst 0, 1) := by decide +kernel
theorem dX5_isLike_35 : decode cX5_isLike 35 = .ok (.ireturn, 1) := by decide +kernel
theorem dX5_copy_0 : decode cX5_copy 0 = .ok (.iload_n 1, 1) := by decide +kernel
theorem dX5_copy_1 : decode cX5_copy 1 = .ok (.invokestatic 82, 3) := by decide +kernel
theorem dX5_copy_4 : decode cX5_copy 4 = .ok (.ifCond .eq 10, 3) := by decide +kernel
theorem dX5_copy_7 : decode cX5_copy 7 = .ok (.iload_n 2, 1) := by decide +kernel
theorem dX5_copy_8 : decode cX5_copy 8 = .ok (.invokestatic 82, 3) := by decide +kernel
theorem dX5_copy_11 : decode cX5_copy 11 = .ok (.ifCond .ne 6, 3) := by decide +kernel
theorem dX5_copy_14 : decode cX5_copy 14 = .ok (.bipush (-101), 2) := by decide +kernel
theorem dX5_copy_16 : decode cX5_copy 16 = .ok (.ireturn, 1) := by decide +kernel
theorem dX5_copy_17 : decode cX5_copy 17 = .ok (.aload_n 0, 1) := by decide +kernel
theorem dX5_copy_18 : decode cX5_copy 18 = .ok (.getfield 7, 3) := by decide +kernel
theorem dX5_copy_21 : decode cX5_copy 21 = .ok (.iload_n 1, 1) := by decide +kernel
theorem dX5_copy_22 : decode cX5_copy 22 = .ok (.baload, 1) := by decide +kernel
theorem dX5_copy_23 : decode cX5_copy 23 = .ok (.ifCond .eq 12, 3) := by decide +kernel
theorem dX5_copy_26 : decode cX5_copy 26 = .ok (.aload_n 0, 1) := by decide +kernel
theorem dX5_copy_27 : decode cX5_copy 27 = .ok (.getfield 7, 3) := by decide +kernel
theorem dX5_copy_30 : decode cX5_copy 30 = .ok (.iload_n 2, 1) := by decide +kernel
theorem dX5_copy_31 : decode cX5_copy 31 = .ok (.baload, 1) := by decide +kernel
theorem dX5_copy_32 : decode cX5_copy 32 = .ok (.ifCond .ne 10, 3) := by decide +kernel
theorem dX5_copy_35 : decode cX5_copy 35 = .ok (.aload_n 0, 1) := by decide +kernel
theorem dX5_copy_36 : decode cX5_copy 36 = .ok (.bipush (-11), 2) := by decide +kernel
theorem dX5_copy_38 : decode cX5_copy 38 = .ok (.invokevirtual 88, 3) := by decide +kernel
theorem dX5_copy_41 : decode cX5_copy 41 = .ok (.ireturn, 1) := by decide +kernel
theorem dX5_copy_42 : decode cX5_copy 42 = .ok (.aload_n 0, 1) := by decide +kernel
theorem dX5_copy_43 : decode cX5_copy 43 = .ok (.getfield 13, 3) := by decide +kernel
theorem dX5_copy_46 : decode cX5_copy 46 = .ok (.iload_n 1, 1) := by decide +kernel
theorem dX5_copy_47 : decode cX5_copy 47 = .ok (.iaload, 1) := by decide +kernel
theorem dX5_copy_48 : decode cX5_copy 48 = .ok (.aload_n 0, 1) := by decide +kernel
theorem dX5_copy_49 : decode cX5_copy 49 = .ok (.getfield 13, 3) := by decide +kernel
theorem dX5_copy_52 : decode cX5_copy 52 = .ok (.iload_n 2, 1) := by decide +kernel
theorem dX5_copy_53 : decode cX5_copy 53 = .ok (.iaload, 1) := by decide +kernel
theorem dX5_copy_54 : decode cX5_copy 54 = .ok (.if_icmp .eq 10, 3) := by decide +kernel
theorem dX5_copy_57 : decode cX5_copy 57 = .ok (.aload_n 0, 1) := by decide +kernel
theorem dX5_copy_58 : decode cX5_copy 58 = .ok (.bipush (-14), 2) := by decide +kernel
theorem dX5_copy_60 : decode cX5_copy 60 = .ok (.invokevirtual 88, 3) := by decide +kernel
theorem dX5_copy_63 : decode cX5_copy 63 = .ok (.ireturn, 1) := by decide +kernel
theorem dX5_copy_64 : decode cX5_copy 64 = .ok (.aload_n 0, 1) := by decide +kernel
theorem dX5_copy_65 : decode cX5_copy 65 = .ok (.iload_n 1, 1) := by decide +kernel
theorem dX5_copy_66 : decode cX5_copy 66 = .ok (.iload_n 2, 1) := by decide +kernel
theorem dX5_copy_67 : decode cX5_copy 67 = .ok (.invokevirtual 104, 3) := by decide +kernel
theorem dX5_copy_70 : decode cX5_copy 70 = .ok (.ifCond .ne 10, 3) := by decide +kernel
theorem dX5_copy_73 : decode cX5_copy 73 = .ok (.aload_n 0, 1) := by decide +kernel
theorem dX5_copy_74 : decode cX5_copy 74 = .ok (.bipush (-15), 2) := by decide +kernel
theorem dX5_copy_76 : decode cX5_copy 76 = .ok (.invokevirtual 88, 3) := by decide +kernel
theorem dX5_copy_79 : decode cX5_copy 79 = .ok (.ireturn, 1) := by decide +kernel
theorem dX5_copy_80 : decode cX5_copy 80 = .ok (.iconst 0, 1) := by decide +kernel
theorem dX5_copy_81 : decode cX5_copy 81 = .ok (.istore_n 3, 1) := by decide +kernel
theorem dX5_copy_82 : decode cX5_copy 82 = .ok (.iload_n 3, 1) := by decide +kernel
theorem dX5_copy_83 : decode cX5_copy 83 = .ok (.sipush 400, 3) := by decide +kernel
theorem dX5_copy_86 : decode cX5_copy 86 = .ok (.if_icmp .ge 33, 3) := by decide +kernel
theorem dX5_copy_89 : decode cX5_copy 89 = .ok (.aload_n 0, 1) := by decide +kernel
theorem dX5_copy_90 : decode cX5_copy 90 = .ok (.getfield 23, 3) := by decide +kernel
theorem dX5_copy_93 : decode cX5_copy 93 = .ok (.sipush 400, 3) := by decide +kernel
theorem dX5_copy_96 : decode cX5_copy 96 = .ok (.iload_n 2, 1) := by decide +kernel
theorem dX5_copy_97 : decode cX5_copy 97 = .ok (.imul, 1) := by decide +kernel
theorem dX5_copy_98 : decode cX5_copy 98 = .ok (.iload_n 3, 1) := by decide +kernel
theorem dX5_copy_99 : decode cX5_copy 99 = .ok (.iadd, 1) := by decide +kernel
theorem dX5_copy_100 : decode cX5_copy 100 = .ok (.aload_n 0, 1) := by decide +kernel
theorem dX5_copy_101 : decode cX5_copy 101 = .ok (.getfield 23, 3) := by decide +kernel
theorem dX5_copy_104 : decode cX5_copy 104 = .ok (.sipush 400, 3) := by decide +kernel
theorem dX5_copy_107 : decode cX5_copy 107 = .ok (.iload_n 1, 1) := by decide +kernel
theorem dX5_copy_108 : decode cX5_copy 108 = .ok (.imul, 1) := by decide +kernel
theorem dX5_copy_109 : decode cX5_copy 109 = .ok (.iload_n 3, 1) := by decide +kernel
theorem dX5_copy_110 : decode cX5_copy 110 = .ok (.iadd, 1) := by decide +kernel
theorem dX5_copy_111 : decode cX5_copy 111 = .ok (.iaload, 1) := by decide +kernel
theorem dX5_copy_112 : decode cX5_copy 112 = .ok (.iastore, 1) := by decide +kernel
theorem dX5_copy_113 : decode cX5_copy 113 = .ok (.iinc 3 1, 3) := by decide +kernel
theorem dX5_copy_116 : decode cX5_copy 116 = .ok (.goto (-34), 3) := by decide +kernel
theorem dX5_copy_119 : decode cX5_copy 119 = .ok (.iconst 1, 1) := by decide +kernel
theorem dX5_copy_120 : decode cX5_copy 120 = .ok (.ireturn, 1) := by decide +kernel
theorem dX5_less_0 : decode cX5_less 0 = .ok (.iload_n 1, 1) := by decide +kernel
theorem dX5_less_1 : decode cX5_less 1 = .ok (.invokestatic 82, 3) := by decide +kernel
theorem dX5_less_4 : decode cX5_less 4 = .ok (.ifCond .eq 10, 3) := by decide +kernel
theorem dX5_less_7 : decode cX5_less 7 = .ok (.iload_n 2, 1) := by decide +kernel
theorem dX5_less_8 : decode cX5_less 8 = .ok (.invokestatic 82, 3) := by decide +kernel
theorem dX5_less_11 : decode cX5_less 11 = .ok (.ifCond .ne 6, 3) := by decide +kernel
theorem dX5_less_14 : decode cX5_less 14 = .ok (.bipush (-101), 2) := by decide +kernel
theorem dX5_less_16 : decode cX5_less 16 = .ok (.ireturn, 1) := by decide +kernel
theorem dX5_less_17 : decode cX5_less 17 = .ok (.aload_n 0, 1) := by decide +kernel
theorem dX5_less_18 : decode cX5_less 18 = .ok (.getfield 7, 3) := by decide +kernel
theorem dX5_less_21 : decode cX5_less 21 = .ok (.iload_n 1, 1) := by decide +kernel
theorem dX5_less_22 : decode cX5_less 22 = .ok (.baload, 1) := by decide +kernel
theorem dX5_less_23 : decode cX5_less 23 = .ok (.ifCond .eq 12, 3) := by decide +kernel
theorem dX5_less_26 : decode cX5_less 26 = .ok (.aload_n 0, 1) := by decide +kernel
theorem dX5_less_27 : decode cX5_less 27 = .ok (.getfield 7, 3) := by decide +kernel
theorem dX5_less_30 : decode cX5_less 30 = .ok (.iload_n 2, 1) := by decide +kernel
theorem dX5_less_31 : decode cX5_less 31 = .ok (.baload, 1) := by decide +kernel
theorem dX5_less_32 : decode cX5_less 32 = .ok (.ifCond .ne 10, 3) := by decide +kernel
theorem dX5_less_35 : decode cX5_less 35 = .ok (.aload_n 0, 1) := by decide +kernel
theorem dX5_less_36 : decode cX5_less 36 = .ok (.bipush (-11), 2) := by decide +kernel
theorem dX5_less_38 : decode cX5_less 38 = .ok (.invokevirtual 88, 3) := by decide +kernel
theorem dX5_less_41 : decode cX5_less 41 = .ok (.ireturn, 1) := by decide +kernel
theorem dX5_less_42 : decode cX5_less 42 = .ok (.aload_n 0, 1) := by decide +kernel
theorem dX5_less_43 : decode cX5_less 43 = .ok (.iload_n 1, 1) := by decide +kernel
theorem dX5_less_44 : decode cX5_less 44 = .ok (.iload_n 2, 1) := by decide +kernel
theorem dX5_less_45 : decode cX5_less 45 = .ok (.invokevirtual 104, 3) := by decide +kernel
theorem dX5_less_48 : decode cX5_less 48 = .ok (.ifCond .ne 10, 3) := by decide +kernel
theorem dX5_less_51 : decode cX5_less 51 = .ok (.aload_n 0, 1) := by decide +kernel
theorem dX5_less_52 : decode cX5_less 52 = .ok (.bipush (-15), 2) := by decide +kernel
theorem dX5_less_54 : decode cX5_less 54 = .ok (.invokevirtual 88, 3) := by decide +kernel
theorem dX5_less_57 : decode cX5_less 57 = .ok (.ireturn, 1) := by decide +kernel
theorem dX5_less_58 : decode cX5_less 58 = .ok (.iconst 0, 1) := by decide +kernel
theorem dX5_less_59 : decode cX5_less 59 = .ok (.istore_n 3, 1) := by decide +kernel
theorem dX5_less_60 : decode cX5_less 60 = .ok (.iload_n 3, 1) := by decide +kernel
theorem dX5_less_61 : decode cX5_less 61 = .ok (.sipush 400, 3) := by decide +kernel
theorem dX5_less_64 : decode cX5_less 64 = .ok (.if_icmp .ge 55, 3) := by decide +kernel
theorem dX5_less_67 : decode cX5_less 67 = .ok (.aload_n 0, 1) := by decide +kernel
theorem dX5_less_68 : decode cX5_less 68 = .ok (.getfield 23, 3) := by decide +kernel
theorem dX5_less_71 : decode cX5_less 71 = .ok (.sipush 400, 3) := by decide +kernel
theorem dX5_less_74 : decode cX5_less 74 = .ok (.iload_n 2, 1) := by decide +kernel
theorem dX5_less_75 : decode cX5_less 75 = .ok (.imul, 1) := by decide +kernel
theorem dX5_less_76 : decode cX5_less 76 = .ok (.iload_n 3, 1) := by decide +kernel
theorem dX5_less_77 : decode cX5_less 77 = .ok (.iadd, 1) := by decide +kernel
theorem dX5_less_78 : decode cX5_less 78 = .ok (.aload_n 0, 1) := by decide +kernel
theorem dX5_less_79 : decode cX5_less 79 = .ok (.getfield 13, 3) := by decide +kernel
theorem dX5_less_82 : decode cX5_less 82 = .ok (.iload_n 2, 1) := by decide +kernel
theorem dX5_less_83 : decode cX5_less 83 = .ok (.iaload, 1) := by decide +kernel
theorem dX5_less_84 : decode cX5_less 84 = .ok (.aload_n 0, 1) := by decide +kernel
theorem dX5_less_85 : decode cX5_less 85 = .ok (.getfield 23, 3) := by decide +kernel
theorem dX5_less_88 : decode cX5_less 88 = .ok (.sipush 400, 3) := by decide +kernel
theorem dX5_less_91 : decode cX5_less 91 = .ok (.iload_n 2, 1) := by decide +kernel
theorem dX5_less_92 : decode cX5_less 92 = .ok (.imul, 1) := by decide +kernel
theorem dX5_less_93 : decode cX5_less 93 = .ok (.iload_n 3, 1) := by decide +kernel
theorem dX5_less_94 : decode cX5_less 94 = .ok (.iadd, 1) := by decide +kernel
theorem dX5_less_95 : decode cX5_less 95 = .ok (.iaload, 1) := by decide +kernel
theorem dX5_less_96 : decode cX5_less 96 = .ok (.aload_n 0, 1) := by decide +kernel
theorem dX5_less_97 : decode cX5_less 97 = .ok (.getfield 23, 3) := by decide +kernel
theorem dX5_less_100 : decode cX5_less 100 = .ok (.sipush 400, 3) := by decide +kernel
theorem dX5_less_103 : decode cX5_less 103 = .ok (.iload_n 1, 1) := by decide +kernel
theorem dX5_less_104 : decode cX5_less 104 = .ok (.imul, 1) := by decide +kernel
theorem dX5_less_105 : decode cX5_less 105 = .ok (.iload_n 3, 1) := by decide +kernel
theorem dX5_less_106 : decode cX5_less 106 = .ok (.iadd, 1) := by decide +kernel
theorem dX5_less_107 : decode cX5_less 107 = .ok (.iaload, 1) := by decide +kernel
theorem dX5_less_108 : decode cX5_less 108 = .ok (.isub, 1) := by decide +kernel
theorem dX5_less_109 : decode cX5_less 109 = .ok (.invokestatic 100, 3) := by decide +kernel
theorem dX5_less_112 : decode cX5_less 112 = .ok (.iastore, 1) := by decide +kernel
theorem dX5_less_113 : decode cX5_less 113 = .ok (.iinc 3 1, 3) := by decide +kernel
theorem dX5_less_116 : decode cX5_less 116 = .ok (.goto (-56), 3) := by decide +kernel
theorem dX5_less_119 : decode cX5_less 119 = .ok (.iconst 1, 1) := by decide +kernel
theorem dX5_less_120 : decode cX5_less 120 = .ok (.ireturn, 1) := by decide +kernel
theorem dX5_lose_0 : decode cX5_lose 0 = .ok (.iload_n 1, 1) := by decide +kernel
theorem dX5_lose_1 : decode cX5_lose 1 = .ok (.invokestatic 82, 3) := by decide +kernel
theorem dX5_lose_4 : decode cX5_lose 4 = .ok (.ifCond .ne 6, 3) := by decide +kernel
theorem dX5_lose_7 : decode cX5_lose 7 = .ok (.bipush (-101), 2) := by decide +kernel
theorem dX5_lose_9 : decode cX5_lose 9 = .ok (.ireturn, 1) := by decide +kernel
theorem dX5_lose_10 : decode cX5_lose 10 = .ok (.aload_n 0, 1) := by decide +kernel
theorem dX5_lose_11 : decode cX5_lose 11 = .ok (.getfield 7, 3) := by decide +kernel
theorem dX5_lose_14 : decode cX5_lose 14 = .ok (.iload_n 1, 1) := by decide +kernel
theorem dX5_lose_15 : decode cX5_lose 15 = .ok (.baload, 1) := by decide +kernel
theorem dX5_lose_16 : decode cX5_lose 16 = .ok (.ifCond .ne 10, 3) := by decide +kernel
theorem dX5_lose_19 : decode cX5_lose 19 = .ok (.aload_n 0, 1) := by decide +kernel
theorem dX5_lose_20 : decode cX5_lose 20 = .ok (.bipush (-11), 2) := by decide +kernel
theorem dX5_lose_22 : decode cX5_lose 22 = .ok (.invokevirtual 88, 3) := by decide +kernel
theorem dX5_lose_25 : decode cX5_lose 25 = .ok (.ireturn, 1) := by decide +kernel
theorem dX5_lose_26 : decode cX5_lose 26 = .ok (.aload_n 0, 1) := by decide +kernel
theorem dX5_lose_27 : decode cX5_lose 27 = .ok (.getfield 7, 3) := by decide +kernel
theorem dX5_lose_30 : decode cX5_lose 30 = .ok (.iload_n 1, 1) := by decide +kernel
theorem dX5_lose_31 : decode cX5_lose 31 = .ok (.iconst 0, 1) := by decide +kernel
theorem dX5_lose_32 : decode cX5_lose 32 = .ok (.bastore, 1) := by decide +kernel
theorem dX5_lose_33 : decode cX5_lose 33 = .ok (.iconst 1, 1) := by decide +kernel
theorem dX5_lose_34 : decode cX5_lose 34 = .ok (.ireturn, 1) := by decide +kernel
theorem dX5_bad_0 : decode cX5_bad 0 = .ok (.iload_n 1, 1) := by decide +kernel
theorem dX5_bad_1 : decode cX5_bad 1 = .ok (.i2l, 1) := by decide +kernel
theorem dX5_bad_2 : decode cX5_bad 2 = .ok (.lconst 0, 1) := by decide +kernel
theorem dX5_bad_3 : decode cX5_bad 3 = .ok (.ldc2_w 108, 3) := by decide +kernel
theorem dX5_bad_6 : decode cX5_bad 6 = .ok (.invokestatic 75, 3) := by decide +kernel
theorem dX5_bad_9 : decode cX5_bad 9 = .ok (.ifCond .eq 15, 3) := by decide +kernel
theorem dX5_bad_12 : decode cX5_bad 12 = .ok (.iload_n 2, 1) := by decide +kernel
theorem dX5_bad_13 : decode cX5_bad 13 = .ok (.i2l, 1) := by decide +kernel
theorem dX5_bad_14 : decode cX5_bad 14 = .ok (.lconst 0, 1) := by decide +kernel
theorem dX5_bad_15 : decode cX5_bad 15 = .ok (.ldc2_w 108, 3) := by decide +kernel
theorem dX5_bad_18 : decode cX5_bad 18 = .ok (.invokestatic 75, 3) := by decide +kernel
theorem dX5_bad_21 : decode cX5_bad 21 = .ok (.ifCond .ne 6, 3) := by decide +kernel
theorem dX5_bad_24 : decode cX5_bad 24 = .ok (.bipush (-102), 2) := by decide +kernel
theorem dX5_bad_26 : decode cX5_bad 26 = .ok (.ireturn, 1) := by decide +kernel
theorem dX5_bad_27 : decode cX5_bad 27 = .ok (.aload_n 0, 1) := by decide +kernel
theorem dX5_bad_28 : decode cX5_bad 28 = .ok (.getfield 26, 3) := by decide +kernel
theorem dX5_bad_31 : decode cX5_bad 31 = .ok (.bipush 20, 2) := by decide +kernel
theorem dX5_bad_33 : decode cX5_bad 33 = .ok (.iload_n 2, 1) := by decide +kernel
theorem dX5_bad_34 : decode cX5_bad 34 = .ok (.imul, 1) := by decide +kernel
theorem dX5_bad_35 : decode cX5_bad 35 = .ok (.iload_n 1, 1) := by decide +kernel
theorem dX5_bad_36 : decode cX5_bad 36 = .ok (.iadd, 1) := by decide +kernel
theorem dX5_bad_37 : decode cX5_bad 37 = .ok (.baload, 1) := by decide +kernel
theorem dX5_bad_38 : decode cX5_bad 38 = .ok (.ifCond .eq 7, 3) := by decide +kernel
theorem dX5_bad_41 : decode cX5_bad 41 = .ok (.iconst 1, 1) := by decide +kernel
theorem dX5_bad_42 : decode cX5_bad 42 = .ok (.goto 4, 3) := by decide +kernel
theorem dX5_bad_45 : decode cX5_bad 45 = .ok (.iconst 0, 1) := by decide +kernel
theorem dX5_bad_46 : decode cX5_bad 46 = .ok (.istore 4, 2) := by decide +kernel
theorem dX5_bad_48 : decode cX5_bad 48 = .ok (.aload_n 0, 1) := by decide +kernel
theorem dX5_bad_49 : decode cX5_bad 49 = .ok (.getfield 26, 3) := by decide +kernel
theorem dX5_bad_52 : decode cX5_bad 52 = .ok (.bipush 20, 2) := by decide +kernel
theorem dX5_bad_54 : decode cX5_bad 54 = .ok (.iload_n 2, 1) := by decide +kernel
theorem dX5_bad_55 : decode cX5_bad 55 = .ok (.imul, 1) := by decide +kernel
theorem dX5_bad_56 : decode cX5_bad 56 = .ok (.iload_n 1, 1) := by decide +kernel
theorem dX5_bad_57 : decode cX5_bad 57 = .ok (.iadd, 1) := by decide +kernel
theorem dX5_bad_58 : decode cX5_bad 58 = .ok (.iload_n 3, 1) := by decide +kernel
theorem dX5_bad_59 : decode cX5_bad 59 = .ok (.bastore, 1) := by decide +kernel
theorem dX5_bad_60 : decode cX5_bad 60 = .ok (.iload 4, 2) := by decide +kernel
theorem dX5_bad_62 : decode cX5_bad 62 = .ok (.ireturn, 1) := by decide +kernel
theorem dX5_look_0 : decode cX5_look 0 = .ok (.iload_n 1, 1) := by decide +kernel
theorem dX5_look_1 : decode cX5_look 1 = .ok (.invokestatic 82, 3) := by decide +kernel
theorem dX5_look_4 : decode cX5_look 4 = .ok (.ifCond .ne 6, 3) := by decide +kernel
theorem dX5_look_7 : decode cX5_look 7 = .ok (.bipush (-101), 2) := by decide +kernel
theorem dX5_look_9 : decode cX5_look 9 = .ok (.ireturn, 1) := by decide +kernel
theorem dX5_look_10 : decode cX5_look 10 = .ok (.aload_n 0, 1) := by decide +kernel
theorem dX5_look_11 : decode cX5_look 11 = .ok (.getfield 7, 3) := by decide +kernel
theorem dX5_look_14 : decode cX5_look 14 = .ok (.iload_n 1, 1) := by decide +kernel
theorem dX5_look_15 : decode cX5_look 15 = .ok (.baload, 1) := by decide +kernel
theorem dX5_look_16 : decode cX5_look 16 = .ok (.ifCond .ne 10, 3) := by decide +kernel
theorem dX5_look_19 : decode cX5_look 19 = .ok (.aload_n 0, 1) := by decide +kernel
theorem dX5_look_20 : decode cX5_look 20 = .ok (.bipush (-11), 2) := by decide +kernel
theorem dX5_look_22 : decode cX5_look 22 = .ok (.invokevirtual 88, 3) := by decide +kernel
theorem dX5_look_25 : decode cX5_look 25 = .ok (.ireturn, 1) := by decide +kernel
theorem dX5_look_26 : decode cX5_look 26 = .ok (.aload_n 0, 1) := by decide +kernel
theorem dX5_look_27 : decode cX5_look 27 = .ok (.iload_n 1, 1) := by decide +kernel
theorem dX5_look_28 : decode cX5_look 28 = .ok (.iload_n 2, 1) := by decide +kernel
theorem dX5_look_29 : decode cX5_look 29 = .ok (.iload_n 3, 1) := by decide +kernel
theorem dX5_look_30 : decode cX5_look 30 = .ok (.invokevirtual 92, 3) := by decide +kernel
theorem dX5_look_33 : decode cX5_look 33 = .ok (.ifCond .ne 10, 3) := by decide +kernel
theorem dX5_look_36 : decode cX5_look 36 = .ok (.aload_n 0, 1) := by decide +kernel
theorem dX5_look_37 : decode cX5_look 37 = .ok (.bipush (-12), 2) := by decide +kernel
theorem dX5_look_39 : decode cX5_look 39 = .ok (.invokevirtual 88, 3) := by decide +kernel
theorem dX5_look_42 : decode cX5_look 42 = .ok (.ireturn, 1) := by decide +kernel
theorem dX5_look_43 : decode cX5_look 43 = .ok (.aload_n 0, 1) := by decide +kernel
theorem dX5_look_44 : decode cX5_look 44 = .ok (.aload_n 0, 1) := by decide +kernel
theorem dX5_look_45 : decode cX5_look 45 = .ok (.getfield 23, 3) := by decide +kernel
theorem dX5_look_48 : decode cX5_look 48 = .ok (.iload_n 1, 1) := by decide +kernel
theorem dX5_look_49 : decode cX5_look 49 = .ok (.iload_n 2, 1) := by decide +kernel
theorem dX5_look_50 : decode cX5_look 50 = .ok (.iload_n 3, 1) := by decide +kernel
theorem dX5_look_51 : decode cX5_look 51 = .ok (.invokestatic 96, 3) := by decide +kernel
theorem dX5_look_54 : decode cX5_look 54 = .ok (.iaload, 1) := by decide +kernel
theorem dX5_look_55 : decode cX5_look 55 = .ok (.putfield 110, 3) := by decide +kernel
theorem dX5_look_58 : decode cX5_look 58 = .ok (.iconst 1, 1) := by decide +kernel
theorem dX5_look_59 : decode cX5_look 59 = .ok (.ireturn, 1) := by decide +kernel
theorem dX5_comb_0 : decode cX5_comb 0 = .ok (.iload_n 1, 1) := by decide +kernel
theorem dX5_comb_1 : decode cX5_comb 1 = .ok (.i2l, 1) := by decide +kernel
theorem dX5_comb_2 : decode cX5_comb 2 = .ok (.lconst 0, 1) := by decide +kernel
theorem dX5_comb_3 : decode cX5_comb 3 = .ok (.ldc2_w 113, 3) := by decide +kernel
theorem dX5_comb_6 : decode cX5_comb 6 = .ok (.invokestatic 75, 3) := by decide +kernel
theorem dX5_comb_9 : decode cX5_comb 9 = .ok (.ifCond .eq 27, 3) := by decide +kernel
theorem dX5_comb_12 : decode cX5_comb 12 = .ok (.iload_n 2, 1) := by decide +kernel
theorem dX5_comb_13 : decode cX5_comb 13 = .ok (.i2l, 1) := by decide +kernel
theorem dX5_comb_14 : decode cX5_comb 14 = .ok (.lconst 0, 1) := by decide +kernel
theorem dX5_comb_15 : decode cX5_comb 15 = .ok (.ldc2_w 113, 3) := by decide +kernel
theorem dX5_comb_18 : decode cX5_comb 18 = .ok (.invokestatic 75, 3) := by decide +kernel
theorem dX5_comb_21 : decode cX5_comb 21 = .ok (.ifCond .eq 15, 3) := by decide +kernel
theorem dX5_comb_24 : decode cX5_comb 24 = .ok (.iload_n 3, 1) := by decide +kernel
theorem dX5_comb_25 : decode cX5_comb 25 = .ok (.i2l, 1) := by decide +kernel
theorem dX5_comb_26 : decode cX5_comb 26 = .ok (.lconst 0, 1) := by decide +kernel
theorem dX5_comb_27 : decode cX5_comb 27 = .ok (.ldc2_w 115, 3) := by decide +kernel
theorem dX5_comb_30 : decode cX5_comb 30 = .ok (.invokestatic 75, 3) := by decide +kernel
theorem dX5_comb_33 : decode cX5_comb 33 = .ok (.ifCond .ne 6, 3) := by decide +kernel
theorem dX5_comb_36 : decode cX5_comb 36 = .ok (.bipush (-102), 2) := by decide +kernel
theorem dX5_comb_38 : decode cX5_comb 38 = .ok (.ireturn, 1) := by decide +kernel
theorem dX5_comb_39 : decode cX5_comb 39 = .ok (.aload_n 0, 1) := by decide +kernel
theorem dX5_comb_40 : decode cX5_comb 40 = .ok (.getfield 79, 3) := by decide +kernel
theorem dX5_comb_43 : decode cX5_comb 43 = .ok (.iconst 4, 1) := by decide +kernel
theorem dX5_comb_44 : decode cX5_comb 44 = .ok (.if_icmp .ne 6, 3) := by decide +kernel
theorem dX5_comb_47 : decode cX5_comb 47 = .ok (.bipush (-104), 2) := by decide +kernel
theorem dX5_comb_49 : decode cX5_comb 49 = .ok (.ireturn, 1) := by decide +kernel
theorem dX5_comb_50 : decode cX5_comb 50 = .ok (.aload_n 0, 1) := by decide +kernel
theorem dX5_comb_51 : decode cX5_comb 51 = .ok (.getfield 29, 3) := by decide +kernel
theorem dX5_comb_54 : decode cX5_comb 54 = .ok (.aload_n 0, 1) := by decide +kernel
theorem dX5_comb_55 : decode cX5_comb 55 = .ok (.getfield 79, 3) := by decide +kernel
theorem dX5_comb_58 : decode cX5_comb 58 = .ok (.iload_n 1, 1) := by decide +kernel
theorem dX5_comb_59 : decode cX5_comb 59 = .ok (.iastore, 1) := by decide +kernel
theorem dX5_comb_60 : decode cX5_comb 60 = .ok (.aload_n 0, 1) := by decide +kernel
theorem dX5_comb_61 : decode cX5_comb 61 = .ok (.getfield 32, 3) := by decide +kernel
theorem dX5_comb_64 : decode cX5_comb 64 = .ok (.aload_n 0, 1) := by decide +kernel
theorem dX5_comb_65 : decode cX5_comb 65 = .ok (.getfield 79, 3) := by decide +kernel
theorem dX5_comb_68 : decode cX5_comb 68 = .ok (.iload_n 2, 1) := by decide +kernel
theorem dX5_comb_69 : decode cX5_comb 69 = .ok (.iastore, 1) := by decide +kernel
theorem dX5_comb_70 : decode cX5_comb 70 = .ok (.aload_n 0, 1) := by decide +kernel
theorem dX5_comb_71 : decode cX5_comb 71 = .ok (.getfield 35, 3) := by decide +kernel
theorem dX5_comb_74 : decode cX5_comb 74 = .ok (.aload_n 0, 1) := by decide +kernel
theorem dX5_comb_75 : decode cX5_comb 75 = .ok (.getfield 79, 3) := by decide +kernel
theorem dX5_comb_78 : decode cX5_comb 78 = .ok (.iload_n 3, 1) := by decide +kernel
theorem dX5_comb_79 : decode cX5_comb 79 = .ok (.iastore, 1) := by decide +kernel
theorem dX5_comb_80 : decode cX5_comb 80 = .ok (.aload_n 0, 1) := by decide +kernel
theorem dX5_comb_81 : decode cX5_comb 81 = .ok (.dup, 1) := by decide +kernel
theorem dX5_comb_82 : decode cX5_comb 82 = .ok (.getfield 79, 3) := by decide +kernel
theorem dX5_comb_85 : decode cX5_comb 85 = .ok (.iconst 1, 1) := by decide +kernel
theorem dX5_comb_86 : decode cX5_comb 86 = .ok (.iadd, 1) := by decide +kernel
theorem dX5_comb_87 : decode cX5_comb 87 = .ok (.putfield 79, 3) := by decide +kernel
theorem dX5_comb_90 : decode cX5_comb 90 = .ok (.aload_n 0, 1) := by decide +kernel
theorem dX5_comb_91 : decode cX5_comb 91 = .ok (.getfield 79, 3) := by decide +kernel
theorem dX5_comb_94 : decode cX5_comb 94 = .ok (.iconst 1, 1) := by decide +kernel
theorem dX5_comb_95 : decode cX5_comb 95 = .ok (.isub, 1) := by decide +kernel
theorem dX5_comb_96 : decode cX5_comb 96 = .ok (.ireturn, 1) := by decide +kernel
theorem dX5_told_0 : decode cX5_told 0 = .ok (.aload_n 0, 1) := by decide +kernel
theorem dX5_told_1 : decode cX5_told 1 = .ok (.iload_n 1, 1) := by decide +kernel
theorem dX5_told_2 : decode cX5_told 2 = .ok (.invokevirtual 117, 3) := by decide +kernel
theorem dX5_told_5 : decode cX5_told 5 = .ok (.ifCond .ne 6, 3) := by decide +kernel
theorem dX5_told_8 : decode cX5_told 8 = .ok (.bipush (-101), 2) := by decide +kernel
theorem dX5_told_10 : decode cX5_told 10 = .ok (.ireturn, 1) := by decide +kernel
theorem dX5_told_11 : decode cX5_told 11 = .ok (.iload_n 2, 1) := by decide +kernel
theorem dX5_told_12 : decode cX5_told 12 = .ok (.tableswitch 151 0 7 #[48, 55, 62, 69, 76, 91, 111, 131], 48) := by decide +kernel
theorem dX5_told_60 : decode cX5_told 60 = .ok (.aload_n 0, 1) := by decide +kernel
theorem dX5_told_61 : decode cX5_told 61 = .ok (.getfield 29, 3) := by decide +kernel
theorem dX5_told_64 : decode cX5_told 64 = .ok (.iload_n 1, 1) := by decide +kernel
theorem dX5_told_65 : decode cX5_told 65 = .ok (.iaload, 1) := by decide +kernel
theorem dX5_told_66 : decode cX5_told 66 = .ok (.ireturn, 1) := by decide +kernel
theorem dX5_told_67 : decode cX5_told 67 = .ok (.aload_n 0, 1) := by decide +kernel
theorem dX5_told_68 : decode cX5_told 68 = .ok (.getfield 32, 3) := by decide +kernel
theorem dX5_told_71 : decode cX5_told 71 = .ok (.iload_n 1, 1) := by decide +kernel
theorem dX5_told_72 : decode cX5_told 72 = .ok (.iaload, 1) := by decide +kernel
theorem dX5_told_73 : decode cX5_told 73 = .ok (.ireturn, 1) := by decide +kernel
theorem dX5_told_74 : decode cX5_told 74 = .ok (.aload_n 0, 1) := by decide +kernel
theorem dX5_told_75 : decode cX5_told 75 = .ok (.getfield 35, 3) := by decide +kernel
theorem dX5_told_78 : decode cX5_told 78 = .ok (.iload_n 1, 1) := by decide +kernel
theorem dX5_told_79 : decode cX5_told 79 = .ok (.iaload, 1) := by decide +kernel
theorem dX5_told_80 : decode cX5_told 80 = .ok (.ireturn, 1) := by decide +kernel
theorem dX5_told_81 : decode cX5_told 81 = .ok (.aload_n 0, 1) := by decide +kernel
theorem dX5_told_82 : decode cX5_told 82 = .ok (.getfield 38, 3) := by decide +kernel
theorem dX5_told_85 : decode cX5_told 85 = .ok (.iload_n 1, 1) := by decide +kernel
theorem dX5_told_86 : decode cX5_told 86 = .ok (.iaload, 1) := by decide +kernel
theorem dX5_told_87 : decode cX5_told 87 = .ok (.ireturn, 1) := by decide +kernel
theorem dX5_told_88 : decode cX5_told 88 = .ok (.aload_n 0, 1) := by decide +kernel
theorem dX5_told_89 : decode cX5_told 89 = .ok (.getfield 45, 3) := by decide +kernel
theorem dX5_told_92 : decode cX5_told 92 = .ok (.iload_n 1, 1) := by decide +kernel
theorem dX5_told_93 : decode cX5_told 93 = .ok (.baload, 1) := by decide +kernel
theorem dX5_told_94 : decode cX5_told 94 = .ok (.ifCond .eq 7, 3) := by decide +kernel
theorem dX5_told_97 : decode cX5_told 97 = .ok (.iconst 1, 1) := by decide +kernel
theorem dX5_told_98 : decode cX5_told 98 = .ok (.goto 4, 3) := by decide +kernel
theorem dX5_told_101 : decode cX5_told 101 = .ok (.iconst 0, 1) := by decide +kernel
theorem dX5_told_102 : decode cX5_told 102 = .ok (.ireturn, 1) := by decide +kernel
theorem dX5_told_103 : decode cX5_told 103 = .ok (.aload_n 0, 1) := by decide +kernel
theorem dX5_told_104 : decode cX5_told 104 = .ok (.getfield 45, 3) := by decide +kernel
theorem dX5_told_107 : decode cX5_told 107 = .ok (.iload_n 1, 1) := by decide +kernel
theorem dX5_told_108 : decode cX5_told 108 = .ok (.baload, 1) := by decide +kernel
theorem dX5_told_109 : decode cX5_told 109 = .ok (.ifCond .eq 12, 3) := by decide +kernel
theorem dX5_told_112 : decode cX5_told 112 = .ok (.aload_n 0, 1) := by decide +kernel
theorem dX5_told_113 : decode cX5_told 113 = .ok (.getfield 48, 3) := by decide +kernel
theorem dX5_told_116 : decode cX5_told 116 = .ok (.iload_n 1, 1) := by decide +kernel
theorem dX5_told_117 : decode cX5_told 117 = .ok (.iaload, 1) := by decide +kernel
theorem dX5_told_118 : decode cX5_told 118 = .ok (.goto 4, 3) := by decide +kernel
theorem dX5_told_121 : decode cX5_told 121 = .ok (.iconst 0, 1) := by decide +kernel
theorem dX5_told_122 : decode cX5_told 122 = .ok (.ireturn, 1) := by decide +kernel
theorem dX5_told_123 : decode cX5_told 123 = .ok (.aload_n 0, 1) := by decide +kernel
theorem dX5_told_124 : decode cX5_told 124 = .ok (.getfield 45, 3) := by decide +kernel
theorem dX5_told_127 : decode cX5_told 127 = .ok (.iload_n 1, 1) := by decide +kernel
theorem dX5_told_128 : decode cX5_told 128 = .ok (.baload, 1) := by decide +kernel
theorem dX5_told_129 : decode cX5_told 129 = .ok (.ifCond .eq 12, 3) := by decide +kernel
theorem dX5_told_132 : decode cX5_told 132 = .ok (.aload_n 0, 1) := by decide +kernel
theorem dX5_told_133 : decode cX5_told 133 = .ok (.getfield 51, 3) := by decide +kernel
theorem dX5_told_136 : decode cX5_told 136 = .ok (.iload_n 1, 1) := by decide +kernel
theorem dX5_told_137 : decode cX5_told 137 = .ok (.iaload, 1) := by decide +kernel
theorem dX5_told_138 : decode cX5_told 138 = .ok (.goto 4, 3) := by decide +kernel
theorem dX5_told_141 : decode cX5_told 141 = .ok (.iconst 0, 1) := by decide +kernel
theorem dX5_told_142 : decode cX5_told 142 = .ok (.ireturn, 1) := by decide +kernel
theorem dX5_told_143 : decode cX5_told 143 = .ok (.aload_n 0, 1) := by decide +kernel
theorem dX5_told_144 : decode cX5_told 144 = .ok (.getfield 45, 3) := by decide +kernel
theorem dX5_told_147 : decode cX5_told 147 = .ok (.iload_n 1, 1) := by decide +kernel
theorem dX5_told_148 : decode cX5_told 148 = .ok (.baload, 1) := by decide +kernel
theorem dX5_told_149 : decode cX5_told 149 = .ok (.ifCond .eq 12, 3) := by decide +kernel
theorem dX5_told_152 : decode cX5_told 152 = .ok (.aload_n 0, 1) := by decide +kernel
theorem dX5_told_153 : decode cX5_told 153 = .ok (.getfield 54, 3) := by decide +kernel
theorem dX5_told_156 : decode cX5_told 156 = .ok (.iload_n 1, 1) := by decide +kernel
theorem dX5_told_157 : decode cX5_told 157 = .ok (.iaload, 1) := by decide +kernel
theorem dX5_told_158 : decode cX5_told 158 = .ok (.goto 4, 3) := by decide +kernel
theorem dX5_told_161 : decode cX5_told 161 = .ok (.iconst 0, 1) := by decide +kernel
theorem dX5_told_162 : decode cX5_told 162 = .ok (.ireturn, 1) := by decide +kernel
theorem dX5_told_163 : decode cX5_told 163 = .ok (.bipush (-102), 2) := by decide +kernel
theorem dX5_told_165 : decode cX5_told 165 = .ok (.ireturn, 1) := by decide +kernel
theorem dX5_middle_0 : decode cX5_middle 0 = .ok (.aload_n 0, 1) := by decide +kernel
theorem dX5_middle_1 : decode cX5_middle 1 = .ok (.getfield 29, 3) := by decide +kernel
theorem dX5_middle_4 : decode cX5_middle 4 = .ok (.iload_n 1, 1) := by decide +kernel
theorem dX5_middle_5 : decode cX5_middle 5 = .ok (.iaload, 1) := by decide +kernel
theorem dX5_middle_6 : decode cX5_middle 6 = .ok (.istore 4, 2) := by decide +kernel
theorem dX5_middle_8 : decode cX5_middle 8 = .ok (.iload_n 3, 1) := by decide +kernel
theorem dX5_middle_9 : decode cX5_middle 9 = .ok (.iconst 1, 1) := by decide +kernel
theorem dX5_middle_10 : decode cX5_middle 10 = .ok (.if_icmp .le 33, 3) := by decide +kernel
theorem dX5_middle_13 : decode cX5_middle 13 = .ok (.iload 4, 2) := by decide +kernel
theorem dX5_middle_15 : decode cX5_middle 15 = .ok (.aload_n 0, 1) := by decide +kernel
theorem dX5_middle_16 : decode cX5_middle 16 = .ok (.getfield 32, 3) := by decide +kernel
theorem dX5_middle_19 : decode cX5_middle 19 = .ok (.iload_n 1, 1) := by decide +kernel
theorem dX5_middle_20 : decode cX5_middle 20 = .ok (.iaload, 1) := by decide +kernel
theorem dX5_middle_21 : decode cX5_middle 21 = .ok (.aload_n 0, 1) := by decide +kernel
theorem dX5_middle_22 : decode cX5_middle 22 = .ok (.getfield 29, 3) := by decide +kernel
theorem dX5_middle_25 : decode cX5_middle 25 = .ok (.iload_n 1, 1) := by decide +kernel
theorem dX5_middle_26 : decode cX5_middle 26 = .ok (.iaload, 1) := by decide +kernel
theorem dX5_middle_27 : decode cX5_middle 27 = .ok (.isub, 1) := by decide +kernel
theorem dX5_middle_28 : decode cX5_middle 28 = .ok (.i2l, 1) := by decide +kernel
theorem dX5_middle_29 : decode cX5_middle 29 = .ok (.iload_n 2, 1) := by decide +kernel
theorem dX5_middle_30 : decode cX5_middle 30 = .ok (.i2l, 1) := by decide +kernel
theorem dX5_middle_31 : decode cX5_middle 31 = .ok (.lmul, 1) := by decide +kernel
theorem dX5_middle_32 : decode cX5_middle 32 = .ok (.iload_n 3, 1) := by decide +kernel
theorem dX5_middle_33 : decode cX5_middle 33 = .ok (.iconst 1, 1) := by decide +kernel
theorem dX5_middle_34 : decode cX5_middle 34 = .ok (.isub, 1) := by decide +kernel
theorem dX5_middle_35 : decode cX5_middle 35 = .ok (.i2l, 1) := by decide +kernel
theorem dX5_middle_36 : decode cX5_middle 36 = .ok (.invokestatic 120, 3) := by decide +kernel
theorem dX5_middle_39 : decode cX5_middle 39 = .ok (.l2i, 1) := by decide +kernel
theorem dX5_middle_40 : decode cX5_middle 40 = .ok (.iadd, 1) := by decide +kernel
theorem dX5_middle_41 : decode cX5_middle 41 = .ok (.istore 4, 2) := by decide +kernel
theorem dX5_middle_43 : decode cX5_middle 43 = .ok (.iload 4, 2) := by decide +kernel
theorem dX5_middle_45 : decode cX5_middle 45 = .ok (.bipush 8, 2) := by decide +kernel
theorem dX5_middle_47 : decode cX5_middle 47 = .ok (.iadd, 1) := by decide +kernel
theorem dX5_middle_48 : decode cX5_middle 48 = .ok (.bipush 16, 2) := by decide +kernel
theorem dX5_middle_50 : decode cX5_middle 50 = .ok (.idiv, 1) := by decide +kernel
theorem dX5_middle_51 : decode cX5_middle 51 = .ok (.ireturn, 1) := by decide +kernel
theorem dX5_firstRow_0 : decode cX5_firstRow 0 = .ok (.aload_n 0, 1) := by decide +kernel
theorem dX5_firstRow_1 : decode cX5_firstRow 1 = .ok (.iload_n 1, 1) := by decide +kernel
theorem dX5_firstRow_2 : decode cX5_firstRow 2 = .ok (.iload_n 3, 1) := by decide +kernel
theorem dX5_firstRow_3 : decode cX5_firstRow 3 = .ok (.aload_n 0, 1) := by decide +kernel
theorem dX5_firstRow_4 : decode cX5_firstRow 4 = .ok (.getfield 17, 3) := by decide +kernel
theorem dX5_firstRow_7 : decode cX5_firstRow 7 = .ok (.iload_n 2, 1) := by decide +kernel
theorem dX5_firstRow_8 : decode cX5_firstRow 8 = .ok (.iaload, 1) := by decide +kernel
theorem dX5_firstRow_9 : decode cX5_firstRow 9 = .ok (.invokevirtual 124, 3) := by decide +kernel
theorem dX5_firstRow_12 : decode cX5_firstRow 12 = .ok (.aload_n 0, 1) := by decide +kernel
theorem dX5_firstRow_13 : decode cX5_firstRow 13 = .ok (.getfield 35, 3) := by decide +kernel
theorem dX5_firstRow_16 : decode cX5_firstRow 16 = .ok (.iload_n 1, 1) := by decide +kernel
theorem dX5_firstRow_17 : decode cX5_firstRow 17 = .ok (.iaload, 1) := by decide +kernel
theorem dX5_firstRow_18 : decode cX5_firstRow 18 = .ok (.isub, 1) := by decide +kernel
theorem dX5_firstRow_19 : decode cX5_firstRow 19 = .ok (.istore 4, 2) := by decide +kernel
theorem dX5_firstRow_21 : decode cX5_firstRow 21 = .ok (.iload 4, 2) := by decide +kernel
theorem dX5_firstRow_23 : decode cX5_firstRow 23 = .ok (.ifCond .ge 7, 3) := by decide +kernel
theorem dX5_firstRow_26 : decode cX5_firstRow 26 = .ok (.iconst 0, 1) := by decide +kernel
theorem dX5_firstRow_27 : decode cX5_firstRow 27 = .ok (.goto 5, 3) := by decide +kernel
theorem dX5_firstRow_30 : decode cX5_firstRow 30 = .ok (.iload 4, 2) := by decide +kernel
theorem dX5_firstRow_32 : decode cX5_firstRow 32 = .ok (.ireturn, 1) := by decide +kernel
theorem dX5_lastRow_0 : decode cX5_lastRow 0 = .ok (.aload_n 0, 1) := by decide +kernel
theorem dX5_lastRow_1 : decode cX5_lastRow 1 = .ok (.iload_n 1, 1) := by decide +kernel
theorem dX5_lastRow_2 : decode cX5_lastRow 2 = .ok (.iload_n 3, 1) := by decide +kernel
theorem dX5_lastRow_3 : decode cX5_lastRow 3 = .ok (.aload_n 0, 1) := by decide +kernel
theorem dX5_lastRow_4 : decode cX5_lastRow 4 = .ok (.getfield 17, 3) := by decide +kernel
theorem dX5_lastRow_7 : decode cX5_lastRow 7 = .ok (.iload_n 2, 1) := by decide +kernel
theorem dX5_lastRow_8 : decode cX5_lastRow 8 = .ok (.iaload, 1) := by decide +kernel
theorem dX5_lastRow_9 : decode cX5_lastRow 9 = .ok (.invokevirtual 124, 3) := by decide +kernel
theorem dX5_lastRow_12 : decode cX5_lastRow 12 = .ok (.aload_n 0, 1) := by decide +kernel
theorem dX5_lastRow_13 : decode cX5_lastRow 13 = .ok (.getfield 35, 3) := by decide +kernel
theorem dX5_lastRow_16 : decode cX5_lastRow 16 = .ok (.iload_n 1, 1) := by decide +kernel
theorem dX5_lastRow_17 : decode cX5_lastRow 17 = .ok (.iaload, 1) := by decide +kernel
theorem dX5_lastRow_18 : decode cX5_lastRow 18 = .ok (.iadd, 1) := by decide +kernel
theorem dX5_lastRow_19 : decode cX5_lastRow 19 = .ok (.istore 4, 2) := by decide +kernel
theorem dX5_lastRow_21 : decode cX5_lastRow 21 = .ok (.iload 4, 2) := by decide +kernel
theorem dX5_lastRow_23 : decode cX5_lastRow 23 = .ok (.aload_n 0, 1) := by decide +kernel
theorem dX5_lastRow_24 : decode cX5_lastRow 24 = .ok (.getfield 20, 3) := by decide +kernel
theorem dX5_lastRow_27 : decode cX5_lastRow 27 = .ok (.iload_n 2, 1) := by decide +kernel
theorem dX5_lastRow_28 : decode cX5_lastRow 28 = .ok (.iaload, 1) := by decide +kernel
theorem dX5_lastRow_29 : decode cX5_lastRow 29 = .ok (.if_icmp .ge 8, 3) := by decide +kernel
theorem dX5_lastRow_32 : decode cX5_lastRow 32 = .ok (.iload 4, 2) := by decide +kernel
theorem dX5_lastRow_34 : decode cX5_lastRow 34 = .ok (.goto 11, 3) := by decide +kernel
theorem dX5_lastRow_37 : decode cX5_lastRow 37 = .ok (.aload_n 0, 1) := by decide +kernel
theorem dX5_lastRow_38 : decode cX5_lastRow 38 = .ok (.getfield 20, 3) := by decide +kernel
theorem dX5_lastRow_41 : decode cX5_lastRow 41 = .ok (.iload_n 2, 1) := by decide +kernel
theorem dX5_lastRow_42 : decode cX5_lastRow 42 = .ok (.iaload, 1) := by decide +kernel
theorem dX5_lastRow_43 : decode cX5_lastRow 43 = .ok (.iconst 1, 1) := by decide +kernel
theorem dX5_lastRow_44 : decode cX5_lastRow 44 = .ok (.isub, 1) := by decide +kernel
theorem dX5_lastRow_45 : decode cX5_lastRow 45 = .ok (.ireturn, 1) := by decide +kernel
theorem dX5_band_0 : decode cX5_band 0 = .ok (.aload_n 0, 1) := by decide +kernel
theorem dX5_band_1 : decode cX5_band 1 = .ok (.iload_n 1, 1) := by decide +kernel
theorem dX5_band_2 : decode cX5_band 2 = .ok (.invokevirtual 117, 3) := by decide +kernel
theorem dX5_band_5 : decode cX5_band 5 = .ok (.ifCond .eq 10, 3) := by decide +kernel
theorem dX5_band_8 : decode cX5_band 8 = .ok (.iload_n 2, 1) := by decide +kernel
theorem dX5_band_9 : decode cX5_band 9 = .ok (.invokestatic 82, 3) := by decide +kernel
theorem dX5_band_12 : decode cX5_band 12 = .ok (.ifCond .ne 6, 3) := by decide +kernel
theorem dX5_band_15 : decode cX5_band 15 = .ok (.bipush (-101), 2) := by decide +kernel
theorem dX5_band_17 : decode cX5_band 17 = .ok (.ireturn, 1) := by decide +kernel
theorem dX5_band_18 : decode cX5_band 18 = .ok (.iload 4, 2) := by decide +kernel
theorem dX5_band_20 : decode cX5_band 20 = .ok (.i2l, 1) := by decide +kernel
theorem dX5_band_21 : decode cX5_band 21 = .ok (.lconst 0, 1) := by decide +kernel
theorem dX5_band_22 : decode cX5_band 22 = .ok (.lconst 1, 1) := by decide +kernel
theorem dX5_band_23 : decode cX5_band 23 = .ok (.invokestatic 75, 3) := by decide +kernel
theorem dX5_band_26 : decode cX5_band 26 = .ok (.ifCond .ne 6, 3) := by decide +kernel
theorem dX5_band_29 : decode cX5_band 29 = .ok (.bipush (-102), 2) := by decide +kernel
theorem dX5_band_31 : decode cX5_band 31 = .ok (.ireturn, 1) := by decide +kernel
theorem dX5_band_32 : decode cX5_band 32 = .ok (.aload_n 0, 1) := by decide +kernel
theorem dX5_band_33 : decode cX5_band 33 = .ok (.getfield 7, 3) := by decide +kernel
theorem dX5_band_36 : decode cX5_band 36 = .ok (.iload_n 2, 1) := by decide +kernel
theorem dX5_band_37 : decode cX5_band 37 = .ok (.baload, 1) := by decide +kernel
theorem dX5_band_38 : decode cX5_band 38 = .ok (.ifCond .ne 10, 3) := by decide +kernel
theorem dX5_band_41 : decode cX5_band 41 = .ok (.aload_n 0, 1) := by decide +kernel
theorem dX5_band_42 : decode cX5_band 42 = .ok (.bipush (-11), 2) := by decide +kernel
theorem dX5_band_44 : decode cX5_band 44 = .ok (.invokevirtual 88, 3) := by decide +kernel
theorem dX5_band_47 : decode cX5_band 47 = .ok (.ireturn, 1) := by decide +kernel
theorem dX5_band_48 : decode cX5_band 48 = .ok (.iload_n 3, 1) := by decide +kernel
theorem dX5_band_49 : decode cX5_band 49 = .ok (.i2l, 1) := by decide +kernel
theorem dX5_band_50 : decode cX5_band 50 = .ok (.lconst 0, 1) := by decide +kernel
theorem dX5_band_51 : decode cX5_band 51 = .ok (.aload_n 0, 1) := by decide +kernel
theorem dX5_band_52 : decode cX5_band 52 = .ok (.getfield 17, 3) := by decide +kernel
theorem dX5_band_55 : decode cX5_band 55 = .ok (.iload_n 2, 1) := by decide +kernel
theorem dX5_band_56 : decode cX5_band 56 = .ok (.iaload, 1) := by decide +kernel
theorem dX5_band_57 : decode cX5_band 57 = .ok (.iconst 1, 1) := by decide +kernel
theorem dX5_band_58 : decode cX5_band 58 = .ok (.isub, 1) := by decide +kernel
theorem dX5_band_59 : decode cX5_band 59 = .ok (.i2l, 1) := by decide +kernel
theorem dX5_band_60 : decode cX5_band 60 = .ok (.invokestatic 75, 3) := by decide +kernel
theorem dX5_band_63 : decode cX5_band 63 = .ok (.ifCond .ne 10, 3) := by decide +kernel
theorem dX5_band_66 : decode cX5_band 66 = .ok (.aload_n 0, 1) := by decide +kernel
theorem dX5_band_67 : decode cX5_band 67 = .ok (.bipush (-12), 2) := by decide +kernel
theorem dX5_band_69 : decode cX5_band 69 = .ok (.invokevirtual 88, 3) := by decide +kernel
theorem dX5_band_72 : decode cX5_band 72 = .ok (.ireturn, 1) := by decide +kernel
theorem dX5_band_73 : decode cX5_band 73 = .ok (.aload_n 0, 1) := by decide +kernel
theorem dX5_band_74 : decode cX5_band 74 = .ok (.iload_n 1, 1) := by decide +kernel
theorem dX5_band_75 : decode cX5_band 75 = .ok (.iload_n 2, 1) := by decide +kernel
theorem dX5_band_76 : decode cX5_band 76 = .ok (.iload_n 3, 1) := by decide +kernel
theorem dX5_band_77 : decode cX5_band 77 = .ok (.invokevirtual 127, 3) := by decide +kernel
theorem dX5_band_80 : decode cX5_band 80 = .ok (.istore 5, 2) := by decide +kernel
theorem dX5_band_82 : decode cX5_band 82 = .ok (.aload_n 0, 1) := by decide +kernel
theorem dX5_band_83 : decode cX5_band 83 = .ok (.iload_n 1, 1) := by decide +kernel
theorem dX5_band_84 : decode cX5_band 84 = .ok (.iload_n 2, 1) := by decide +kernel
theorem dX5_band_85 : decode cX5_band 85 = .ok (.iload_n 3, 1) := by decide +kernel
theorem dX5_band_86 : decode cX5_band 86 = .ok (.invokevirtual 130, 3) := by decide +kernel
theorem dX5_band_89 : decode cX5_band 89 = .ok (.istore 6, 2) := by decide +kernel
theorem dX5_band_91 : decode cX5_band 91 = .ok (.aload_n 0, 1) := by decide +kernel
theorem dX5_band_92 : decode cX5_band 92 = .ok (.iload 5, 2) := by decide +kernel
theorem dX5_band_94 : decode cX5_band 94 = .ok (.iload 6, 2) := by decide +kernel
theorem dX5_band_96 : decode cX5_band 96 = .ok (.if_icmp .le 7, 3) := by decide +kernel
theorem dX5_band_99 : decode cX5_band 99 = .ok (.iconst (-1), 1) := by decide +kernel
theorem dX5_band_100 : decode cX5_band 100 = .ok (.goto 15, 3) := by decide +kernel
theorem dX5_band_103 : decode cX5_band 103 = .ok (.iload 4, 2) := by decide +kernel
theorem dX5_band_105 : decode cX5_band 105 = .ok (.ifCond .ne 8, 3) := by decide +kernel
theorem dX5_band_108 : decode cX5_band 108 = .ok (.iload 5, 2) := by decide +kernel
theorem dX5_band_110 : decode cX5_band 110 = .ok (.goto 5, 3) := by decide +kernel
theorem dX5_band_113 : decode cX5_band 113 = .ok (.iload 6, 2) := by decide +kernel
theorem dX5_band_115 : decode cX5_band 115 = .ok (.putfield 110, 3) := by decide +kernel
theorem dX5_band_118 : decode cX5_band 118 = .ok (.iconst 1, 1) := by decide +kernel
theorem dX5_band_119 : decode cX5_band 119 = .ok (.ireturn, 1) := by decide +kernel
theorem dX5_lightAt_0 : decode cX5_lightAt 0 = .ok (.lconst 0, 1) := by decide +kernel
theorem dX5_lightAt_1 : decode cX5_lightAt 1 = .ok (.lstore 4, 2) := by decide +kernel
theorem dX5_lightAt_3 : decode cX5_lightAt 3 = .ok (.lconst 0, 1) := by decide +kernel
theorem dX5_lightAt_4 : decode cX5_lightAt 4 = .ok (.lstore 6, 2) := by decide +kernel
theorem dX5_lightAt_6 : decode cX5_lightAt 6 = .ok (.aload_n 0, 1) := by decide +kernel
theorem dX5_lightAt_7 : decode cX5_lightAt 7 = .ok (.iload_n 1, 1) := by decide +kernel
theorem dX5_lightAt_8 : decode cX5_lightAt 8 = .ok (.iload_n 2, 1) := by decide +kernel
theorem dX5_lightAt_9 : decode cX5_lightAt 9 = .ok (.iload_n 3, 1) := by decide +kernel
theorem dX5_lightAt_10 : decode cX5_lightAt 10 = .ok (.invokevirtual 127, 3) := by decide +kernel
theorem dX5_lightAt_13 : decode cX5_lightAt 13 = .ok (.istore 8, 2) := by decide +kernel
theorem dX5_lightAt_15 : decode cX5_lightAt 15 = .ok (.iload 8, 2) := by decide +kernel
theorem dX5_lightAt_17 : decode cX5_lightAt 17 = .ok (.aload_n 0, 1) := by decide +kernel
theorem dX5_lightAt_18 : decode cX5_lightAt 18 = .ok (.iload_n 1, 1) := by decide +kernel
theorem dX5_lightAt_19 : decode cX5_lightAt 19 = .ok (.iload_n 2, 1) := by decide +kernel
theorem dX5_lightAt_20 : decode cX5_lightAt 20 = .ok (.iload_n 3, 1) := by decide +kernel
theorem dX5_lightAt_21 : decode cX5_lightAt 21 = .ok (.invokevirtual 130, 3) := by decide +kernel
theorem dX5_lightAt_24 : decode cX5_lightAt 24 = .ok (.if_icmp .gt 71, 3) := by decide +kernel
theorem dX5_lightAt_27 : decode cX5_lightAt 27 = .ok (.aload_n 0, 1) := by decide +kernel
theorem dX5_lightAt_28 : decode cX5_lightAt 28 = .ok (.aload_n 0, 1) := by decide +kernel
theorem dX5_lightAt_29 : decode cX5_lightAt 29 = .ok (.getfield 23, 3) := by decide +kernel
theorem dX5_lightAt_32 : decode cX5_lightAt 32 = .ok (.iload_n 2, 1) := by decide +kernel
theorem dX5_lightAt_33 : decode cX5_lightAt 33 = .ok (.iload_n 3, 1) := by decide +kernel
theorem dX5_lightAt_34 : decode cX5_lightAt 34 = .ok (.iload 8, 2) := by decide +kernel
theorem dX5_lightAt_36 : decode cX5_lightAt 36 = .ok (.invokestatic 96, 3) := by decide +kernel
theorem dX5_lightAt_39 : decode cX5_lightAt 39 = .ok (.iaload, 1) := by decide +kernel
theorem dX5_lightAt_40 : decode cX5_lightAt 40 = .ok (.invokevirtual 133, 3) := by decide +kernel
theorem dX5_lightAt_43 : decode cX5_lightAt 43 = .ok (.lstore 9, 2) := by decide +kernel
theorem dX5_lightAt_45 : decode cX5_lightAt 45 = .ok (.aload_n 0, 1) := by decide +kernel
theorem dX5_lightAt_46 : decode cX5_lightAt 46 = .ok (.getfield 26, 3) := by decide +kernel
theorem dX5_lightAt_49 : decode cX5_lightAt 49 = .ok (.bipush 20, 2) := by decide +kernel
theorem dX5_lightAt_51 : decode cX5_lightAt 51 = .ok (.iload 8, 2) := by decide +kernel
theorem dX5_lightAt_53 : decode cX5_lightAt 53 = .ok (.imul, 1) := by decide +kernel
theorem dX5_lightAt_54 : decode cX5_lightAt 54 = .ok (.iload_n 3, 1) := by decide +kernel
theorem dX5_lightAt_55 : decode cX5_lightAt 55 = .ok (.iadd, 1) := by decide +kernel
theorem dX5_lightAt_56 : decode cX5_lightAt 56 = .ok (.baload, 1) := by decide +kernel
theorem dX5_lightAt_57 : decode cX5_lightAt 57 = .ok (.ifCond .ne 32, 3) := by decide +kernel
theorem dX5_lightAt_60 : decode cX5_lightAt 60 = .ok (.lload 9, 2) := by decide +kernel
theorem dX5_lightAt_62 : decode cX5_lightAt 62 = .ok (.lconst 0, 1) := by decide +kernel
theorem dX5_lightAt_63 : decode cX5_lightAt 63 = .ok (.lcmp, 1) := by decide +kernel
theorem dX5_lightAt_64 : decode cX5_lightAt 64 = .ok (.ifCond .le 25, 3) := by decide +kernel
theorem dX5_lightAt_67 : decode cX5_lightAt 67 = .ok (.lload 4, 2) := by decide +kernel
theorem dX5_lightAt_69 : decode cX5_lightAt 69 = .ok (.lload 9, 2) := by decide +kernel
theorem dX5_lightAt_71 : decode cX5_lightAt 71 = .ok (.ladd, 1) := by decide +kernel
theorem dX5_lightAt_72 : decode cX5_lightAt 72 = .ok (.lstore 4, 2) := by decide +kernel
theorem dX5_lightAt_74 : decode cX5_lightAt 74 = .ok (.lload 6, 2) := by decide +kernel
theorem dX5_lightAt_76 : decode cX5_lightAt 76 = .ok (.ldc2_w 137, 3) := by decide +kernel
theorem dX5_lightAt_79 : decode cX5_lightAt 79 = .ok (.iload 8, 2) := by decide +kernel
theorem dX5_lightAt_81 : decode cX5_lightAt 81 = .ok (.i2l, 1) := by decide +kernel
theorem dX5_lightAt_82 : decode cX5_lightAt 82 = .ok (.lmul, 1) := by decide +kernel
theorem dX5_lightAt_83 : decode cX5_lightAt 83 = .ok (.lload 9, 2) := by decide +kernel
theorem dX5_lightAt_85 : decode cX5_lightAt 85 = .ok (.lmul, 1) := by decide +kernel
theorem dX5_lightAt_86 : decode cX5_lightAt 86 = .ok (.ladd, 1) := by decide +kernel
theorem dX5_lightAt_87 : decode cX5_lightAt 87 = .ok (.lstore 6, 2) := by decide +kernel
theorem dX5_lightAt_89 : decode cX5_lightAt 89 = .ok (.iinc 8 1, 3) := by decide +kernel
theorem dX5_lightAt_92 : decode cX5_lightAt 92 = .ok (.goto (-77), 3) := by decide +kernel
theorem dX5_lightAt_95 : decode cX5_lightAt 95 = .ok (.lload 4, 2) := by decide +kernel
theorem dX5_lightAt_97 : decode cX5_lightAt 97 = .ok (.lconst 0, 1) := by decide +kernel
theorem dX5_lightAt_98 : decode cX5_lightAt 98 = .ok (.lcmp, 1) := by decide +kernel
theorem dX5_lightAt_99 : decode cX5_lightAt 99 = .ok (.ifCond .ne 7, 3) := by decide +kernel
theorem dX5_lightAt_102 : decode cX5_lightAt 102 = .ok (.iconst (-1), 1) := by decide +kernel
theorem dX5_lightAt_103 : decode cX5_lightAt 103 = .ok (.goto 9, 3) := by decide +kernel
theorem dX5_lightAt_106 : decode cX5_lightAt 106 = .ok (.lload 6, 2) := by decide +kernel
theorem dX5_lightAt_108 : decode cX5_lightAt 108 = .ok (.lload 4, 2) := by decide +kernel
theorem dX5_lightAt_110 : decode cX5_lightAt 110 = .ok (.ldiv, 1) := by decide +kernel
theorem dX5_lightAt_111 : decode cX5_lightAt 111 = .ok (.l2i, 1) := by decide +kernel
theorem dX5_lightAt_112 : decode cX5_lightAt 112 = .ok (.ireturn, 1) := by decide +kernel
theorem dX5_trace_0 : decode cX5_trace 0 = .ok (.aload_n 0, 1) := by decide +kernel
theorem dX5_trace_1 : decode cX5_trace 1 = .ok (.iload_n 1, 1) := by decide +kernel
theorem dX5_trace_2 : decode cX5_trace 2 = .ok (.invokevirtual 117, 3) := by decide +kernel
theorem dX5_trace_5 : decode cX5_trace 5 = .ok (.ifCond .eq 10, 3) := by decide +kernel
theorem dX5_trace_8 : decode cX5_trace 8 = .ok (.iload_n 2, 1) := by decide +kernel
theorem dX5_trace_9 : decode cX5_trace 9 = .ok (.invokestatic 82, 3) := by decide +kernel
theorem dX5_trace_12 : decode cX5_trace 12 = .ok (.ifCond .ne 6, 3) := by decide +kernel
theorem dX5_trace_15 : decode cX5_trace 15 = .ok (.bipush (-101), 2) := by decide +kernel
theorem dX5_trace_17 : decode cX5_trace 17 = .ok (.ireturn, 1) := by decide +kernel
theorem dX5_trace_18 : decode cX5_trace 18 = .ok (.aload_n 0, 1) := by decide +kernel
theorem dX5_trace_19 : decode cX5_trace 19 = .ok (.getfield 7, 3) := by decide +kernel
theorem dX5_trace_22 : decode cX5_trace 22 = .ok (.iload_n 2, 1) := by decide +kernel
theorem dX5_trace_23 : decode cX5_trace 23 = .ok (.baload, 1) := by decide +kernel
theorem dX5_trace_24 : decode cX5_trace 24 = .ok (.ifCond .ne 10, 3) := by decide +kernel
theorem dX5_trace_27 : decode cX5_trace 27 = .ok (.aload_n 0, 1) := by decide +kernel
theorem dX5_trace_28 : decode cX5_trace 28 = .ok (.bipush (-11), 2) := by decide +kernel
theorem dX5_trace_30 : decode cX5_trace 30 = .ok (.invokevirtual 88, 3) := by decide +kernel
theorem dX5_trace_33 : decode cX5_trace 33 = .ok (.ireturn, 1) := by decide +kernel
theorem dX5_trace_34 : decode cX5_trace 34 = .ok (.aload_n 0, 1) := by decide +kernel
theorem dX5_trace_35 : decode cX5_trace 35 = .ok (.iload_n 1, 1) := by decide +kernel
theorem dX5_trace_36 : decode cX5_trace 36 = .ok (.iload_n 2, 1) := by decide +kernel
theorem dX5_trace_37 : decode cX5_trace 37 = .ok (.iconst 0, 1) := by decide +kernel
theorem dX5_trace_38 : decode cX5_trace 38 = .ok (.invokevirtual 139, 3) := by decide +kernel
theorem dX5_trace_41 : decode cX5_trace 41 = .ok (.istore_n 3, 1) := by decide +kernel
theorem dX5_trace_42 : decode cX5_trace 42 = .ok (.aload_n 0, 1) := by decide +kernel
theorem dX5_trace_43 : decode cX5_trace 43 = .ok (.iload_n 1, 1) := by decide +kernel
theorem dX5_trace_44 : decode cX5_trace 44 = .ok (.iload_n 2, 1) := by decide +kernel
theorem dX5_trace_45 : decode cX5_trace 45 = .ok (.aload_n 0, 1) := by decide +kernel
theorem dX5_trace_46 : decode cX5_trace 46 = .ok (.getfield 17, 3) := by decide +kernel
theorem dX5_trace_49 : decode cX5_trace 49 = .ok (.iload_n 2, 1) := by decide +kernel
theorem dX5_trace_50 : decode cX5_trace 50 = .ok (.iaload, 1) := by decide +kernel
theorem dX5_trace_51 : decode cX5_trace 51 = .ok (.iconst 1, 1) := by decide +kernel
theorem dX5_trace_52 : decode cX5_trace 52 = .ok (.isub, 1) := by decide +kernel
theorem dX5_trace_53 : decode cX5_trace 53 = .ok (.invokevirtual 139, 3) := by decide +kernel
theorem dX5_trace_56 : decode cX5_trace 56 = .ok (.istore 4, 2) := by decide +kernel
theorem dX5_trace_58 : decode cX5_trace 58 = .ok (.aload_n 0, 1) := by decide +kernel
theorem dX5_trace_59 : decode cX5_trace 59 = .ok (.getfield 29, 3) := by decide +kernel
theorem dX5_trace_62 : decode cX5_trace 62 = .ok (.iload_n 1, 1) := by decide +kernel
theorem dX5_trace_63 : decode cX5_trace 63 = .ok (.iload_n 3, 1) := by decide +kernel
theorem dX5_trace_64 : decode cX5_trace 64 = .ok (.iconst (-1), 1) := by decide +kernel
theorem dX5_trace_65 : decode cX5_trace 65 = .ok (.if_icmp .ne 12, 3) := by decide +kernel
theorem dX5_trace_68 : decode cX5_trace 68 = .ok (.aload_n 0, 1) := by decide +kernel
theorem dX5_trace_69 : decode cX5_trace 69 = .ok (.getfield 29, 3) := by decide +kernel
theorem dX5_trace_72 : decode cX5_trace 72 = .ok (.iload_n 1, 1) := by decide +kernel
theorem dX5_trace_73 : decode cX5_trace 73 = .ok (.iaload, 1) := by decide +kernel
theorem dX5_trace_74 : decode cX5_trace 74 = .ok (.goto 4, 3) := by decide +kernel
theorem dX5_trace_77 : decode cX5_trace 77 = .ok (.iload_n 3, 1) := by decide +kernel
theorem dX5_trace_78 : decode cX5_trace 78 = .ok (.iastore, 1) := by decide +kernel
theorem dX5_trace_79 : decode cX5_trace 79 = .ok (.aload_n 0, 1) := by decide +kernel
theorem dX5_trace_80 : decode cX5_trace 80 = .ok (.getfield 32, 3) := by decide +kernel
theorem dX5_trace_83 : decode cX5_trace 83 = .ok (.iload_n 1, 1) := by decide +kernel
theorem dX5_trace_84 : decode cX5_trace 84 = .ok (.iload 4, 2) := by decide +kernel
theorem dX5_trace_86 : decode cX5_trace 86 = .ok (.iconst (-1), 1) := by decide +kernel
theorem dX5_trace_87 : decode cX5_trace 87 = .ok (.if_icmp .ne 12, 3) := by decide +kernel
theorem dX5_trace_90 : decode cX5_trace 90 = .ok (.aload_n 0, 1) := by decide +kernel
theorem dX5_trace_91 : decode cX5_trace 91 = .ok (.getfield 32, 3) := by decide +kernel
theorem dX5_trace_94 : decode cX5_trace 94 = .ok (.iload_n 1, 1) := by decide +kernel
theorem dX5_trace_95 : decode cX5_trace 95 = .ok (.iaload, 1) := by decide +kernel
theorem dX5_trace_96 : decode cX5_trace 96 = .ok (.goto 5, 3) := by decide +kernel
theorem dX5_trace_99 : decode cX5_trace 99 = .ok (.iload 4, 2) := by decide +kernel
theorem dX5_trace_101 : decode cX5_trace 101 = .ok (.iastore, 1) := by decide +kernel
theorem dX5_trace_102 : decode cX5_trace 102 = .ok (.iconst 1, 1) := by decide +kernel
theorem dX5_trace_103 : decode cX5_trace 103 = .ok (.ireturn, 1) := by decide +kernel
theorem dX5_bounded_0 : decode cX5_bounded 0 = .ok (.iload_n 1, 1) := by decide +kernel
theorem dX5_bounded_1 : decode cX5_bounded 1 = .ok (.ifCond .ge 7, 3) := by decide +kernel
theorem dX5_bounded_4 : decode cX5_bounded 4 = .ok (.lconst 0, 1) := by decide +kernel
theorem dX5_bounded_5 : decode cX5_bounded 5 = .ok (.goto 17, 3) := by decide +kernel
theorem dX5_bounded_8 : decode cX5_bounded 8 = .ok (.iload_n 1, 1) := by decide +kernel
theorem dX5_bounded_9 : decode cX5_bounded 9 = .ok (.ldc 142, 2) := by decide +kernel
theorem dX5_bounded_11 : decode cX5_bounded 11 = .ok (.if_icmp .le 9, 3) := by decide +kernel
theorem dX5_bounded_14 : decode cX5_bounded 14 = .ok (.ldc2_w 143, 3) := by decide +kernel
theorem dX5_bounded_17 : decode cX5_bounded 17 = .ok (.goto 5, 3) := by decide +kernel
theorem dX5_bounded_20 : decode cX5_bounded 20 = .ok (.iload_n 1, 1) := by decide +kernel
theorem dX5_bounded_21 : decode cX5_bounded 21 = .ok (.i2l, 1) := by decide +kernel
theorem dX5_bounded_22 : decode cX5_bounded 22 = .ok (.lreturn, 1) := by decide +kernel
theorem dX5_isUsed_0 : decode cX5_isUsed 0 = .ok (.aload_n 0, 1) := by decide +kernel
theorem dX5_isUsed_1 : decode cX5_isUsed 1 = .ok (.getfield 26, 3) := by decide +kernel
theorem dX5_isUsed_4 : decode cX5_isUsed 4 = .ok (.bipush 20, 2) := by decide +kernel
theorem dX5_isUsed_6 : decode cX5_isUsed 6 = .ok (.iload_n 3, 1) := by decide +kernel
theorem dX5_isUsed_7 : decode cX5_isUsed 7 = .ok (.imul, 1) := by decide +kernel
theorem dX5_isUsed_8 : decode cX5_isUsed 8 = .ok (.iload_n 2, 1) := by decide +kernel
theorem dX5_isUsed_9 : decode cX5_isUsed 9 = .ok (.iadd, 1) := by decide +kernel
theorem dX5_isUsed_10 : decode cX5_isUsed 10 = .ok (.baload, 1) := by decide +kernel
theorem dX5_isUsed_11 : decode cX5_isUsed 11 = .ok (.ifCond .ne 21, 3) := by decide +kernel
theorem dX5_isUsed_14 : decode cX5_isUsed 14 = .ok (.aload_n 0, 1) := by decide +kernel
theorem dX5_isUsed_15 : decode cX5_isUsed 15 = .ok (.getfield 23, 3) := by decide +kernel
theorem dX5_isUsed_18 : decode cX5_isUsed 18 = .ok (.iload_n 1, 1) := by decide +kernel
theorem dX5_isUsed_19 : decode cX5_isUsed 19 = .ok (.iload_n 2, 1) := by decide +kernel
theorem dX5_isUsed_20 : decode cX5_isUsed 20 = .ok (.iload_n 3, 1) := by decide +kernel
theorem dX5_isUsed_21 : decode cX5_isUsed 21 = .ok (.invokestatic 96, 3) := by decide +kernel
theorem dX5_isUsed_24 : decode cX5_isUsed 24 = .ok (.iaload, 1) := by decide +kernel
theorem dX5_isUsed_25 : decode cX5_isUsed 25 = .ok (.ifCond .le 7, 3) := by decide +kernel
theorem dX5_isUsed_28 : decode cX5_isUsed 28 = .ok (.iconst 1, 1) := by decide +kernel
theorem dX5_isUsed_29 : decode cX5_isUsed 29 = .ok (.goto 4, 3) := by decide +kernel
theorem dX5_isUsed_32 : decode cX5_isUsed 32 = .ok (.iconst 0, 1) := by decide +kernel
theorem dX5_isUsed_33 : decode cX5_isUsed 33 = .ok (.ireturn, 1) := by decide +kernel
theorem dX5_ray_0 : decode cX5_ray 0 = .ok (.lconst 0, 1) := by decide +kernel
theorem dX5_ray_1 : decode cX5_ray 1 = .ok (.lstore 6, 2) := by decide +kernel
theorem dX5_ray_3 : decode cX5_ray 3 = .ok (.lconst 0, 1) := by decide +kernel
theorem dX5_ray_4 : decode cX5_ray 4 = .ok (.lstore 8, 2) := by decide +kernel
theorem dX5_ray_6 : decode cX5_ray 6 = .ok (.iconst 0, 1) := by decide +kernel
theorem dX5_ray_7 : decode cX5_ray 7 = .ok (.istore 10, 2) := by decide +kernel
theorem dX5_ray_9 : decode cX5_ray 9 = .ok (.aload_n 0, 1) := by decide +kernel
theorem dX5_ray_10 : decode cX5_ray 10 = .ok (.iload_n 1, 1) := by decide +kernel
theorem dX5_ray_11 : decode cX5_ray 11 = .ok (.iload_n 2, 1) := by decide +kernel
theorem dX5_ray_12 : decode cX5_ray 12 = .ok (.iload 4, 2) := by decide +kernel
theorem dX5_ray_14 : decode cX5_ray 14 = .ok (.invokevirtual 127, 3) := by decide +kernel
theorem dX5_ray_17 : decode cX5_ray 17 = .ok (.istore 11, 2) := by decide +kernel
theorem dX5_ray_19 : decode cX5_ray 19 = .ok (.iload 11, 2) := by decide +kernel
theorem dX5_ray_21 : decode cX5_ray 21 = .ok (.aload_n 0, 1) := by decide +kernel
theorem dX5_ray_22 : decode cX5_ray 22 = .ok (.iload_n 1, 1) := by decide +kernel
theorem dX5_ray_23 : decode cX5_ray 23 = .ok (.iload_n 2, 1) := by decide +kernel
theorem dX5_ray_24 : decode cX5_ray 24 = .ok (.iload 4, 2) := by decide +kernel
theorem dX5_ray_26 : decode cX5_ray 26 = .ok (.invokevirtual 130, 3) := by decide +kernel
theorem dX5_ray_29 : decode cX5_ray 29 = .ok (.if_icmp .gt 68, 3) := by decide +kernel
theorem dX5_ray_32 : decode cX5_ray 32 = .ok (.aload_n 0, 1) := by decide +kernel
theorem dX5_ray_33 : decode cX5_ray 33 = .ok (.iload_n 3, 1) := by decide +kernel
theorem dX5_ray_34 : decode cX5_ray 34 = .ok (.iload 4, 2) := by decide +kernel
theorem dX5_ray_36 : decode cX5_ray 36 = .ok (.iload 11, 2) := by decide +kernel
theorem dX5_ray_38 : decode cX5_ray 38 = .ok (.invokevirtual 145, 3) := by decide +kernel
theorem dX5_ray_41 : decode cX5_ray 41 = .ok (.ifCond .eq 50, 3) := by decide +kernel
theorem dX5_ray_44 : decode cX5_ray 44 = .ok (.lload 6, 2) := by decide +kernel
theorem dX5_ray_46 : decode cX5_ray 46 = .ok (.aload_n 0, 1) := by decide +kernel
theorem dX5_ray_47 : decode cX5_ray 47 = .ok (.aload_n 0, 1) := by decide +kernel
theorem dX5_ray_48 : decode cX5_ray 48 = .ok (.getfield 23, 3) := by decide +kernel
theorem dX5_ray_51 : decode cX5_ray 51 = .ok (.iload_n 3, 1) := by decide +kernel
theorem dX5_ray_52 : decode cX5_ray 52 = .ok (.iload 4, 2) := by decide +kernel
theorem dX5_ray_54 : decode cX5_ray 54 = .ok (.iload 11, 2) := by decide +kernel
theorem dX5_ray_56 : decode cX5_ray 56 = .ok (.invokestatic 96, 3) := by decide +kernel
theorem dX5_ray_59 : decode cX5_ray 59 = .ok (.iaload, 1) := by decide +kernel
theorem dX5_ray_60 : decode cX5_ray 60 = .ok (.invokevirtual 133, 3) := by decide +kernel
theorem dX5_ray_63 : decode cX5_ray 63 = .ok (.ladd, 1) := by decide +kernel
theorem dX5_ray_64 : decode cX5_ray 64 = .ok (.lstore 6, 2) := by decide +kernel
theorem dX5_ray_66 : decode cX5_ray 66 = .ok (.lload 8, 2) := by decide +kernel
theorem dX5_ray_68 : decode cX5_ray 68 = .ok (.aload_n 0, 1) := by decide +kernel
theorem dX5_ray_69 : decode cX5_ray 69 = .ok (.aload_n 0, 1) := by decide +kernel
theorem dX5_ray_70 : decode cX5_ray 70 = .ok (.getfield 23, 3) := by decide +kernel
theorem dX5_ray_73 : decode cX5_ray 73 = .ok (.iload_n 2, 1) := by decide +kernel
theorem dX5_ray_74 : decode cX5_ray 74 = .ok (.iload 4, 2) := by decide +kernel
theorem dX5_ray_76 : decode cX5_ray 76 = .ok (.iload 11, 2) := by decide +kernel
theorem dX5_ray_78 : decode cX5_ray 78 = .ok (.invokestatic 96, 3) := by decide +kernel
theorem dX5_ray_81 : decode cX5_ray 81 = .ok (.iaload, 1) := by decide +kernel
theorem dX5_ray_82 : decode cX5_ray 82 = .ok (.invokevirtual 133, 3) := by decide +kernel
theorem dX5_ray_85 : decode cX5_ray 85 = .ok (.ladd, 1) := by decide +kernel
theorem dX5_ray_86 : decode cX5_ray 86 = .ok (.lstore 8, 2) := by decide +kernel
theorem dX5_ray_88 : decode cX5_ray 88 = .ok (.iinc 10 1, 3) := by decide +kernel
theorem dX5_ray_91 : decode cX5_ray 91 = .ok (.iinc 11 1, 3) := by decide +kernel
theorem dX5_ray_94 : decode cX5_ray 94 = .ok (.goto (-75), 3) := by decide +kernel
theorem dX5_ray_97 : decode cX5_ray 97 = .ok (.iconst (-1), 1) := by decide +kernel
theorem dX5_ray_98 : decode cX5_ray 98 = .ok (.istore 11, 2) := by decide +kernel
theorem dX5_ray_100 : decode cX5_ray 100 = .ok (.lconst 0, 1) := by decide +kernel
theorem dX5_ray_101 : decode cX5_ray 101 = .ok (.lstore 12, 2) := by decide +kernel
theorem dX5_ray_103 : decode cX5_ray 103 = .ok (.aload_n 0, 1) := by decide +kernel
theorem dX5_ray_104 : decode cX5_ray 104 = .ok (.iload_n 1, 1) := by decide +kernel
theorem dX5_ray_105 : decode cX5_ray 105 = .ok (.iload_n 2, 1) := by decide +kernel
theorem dX5_ray_106 : decode cX5_ray 106 = .ok (.iload 4, 2) := by decide +kernel
theorem dX5_ray_108 : decode cX5_ray 108 = .ok (.invokevirtual 127, 3) := by decide +kernel
theorem dX5_ray_111 : decode cX5_ray 111 = .ok (.istore 14, 2) := by decide +kernel
theorem dX5_ray_113 : decode cX5_ray 113 = .ok (.iload 14, 2) := by decide +kernel
theorem dX5_ray_115 : decode cX5_ray 115 = .ok (.aload_n 0, 1) := by decide +kernel
theorem dX5_ray_116 : decode cX5_ray 116 = .ok (.iload_n 1, 1) := by decide +kernel
theorem dX5_ray_117 : decode cX5_ray 117 = .ok (.iload_n 2, 1) := by decide +kernel
theorem dX5_ray_118 : decode cX5_ray 118 = .ok (.iload 4, 2) := by decide +kernel
theorem dX5_ray_120 : decode cX5_ray 120 = .ok (.invokevirtual 130, 3) := by decide +kernel
theorem dX5_ray_123 : decode cX5_ray 123 = .ok (.if_icmp .gt 86, 3) := by decide +kernel
theorem dX5_ray_126 : decode cX5_ray 126 = .ok (.aload_n 0, 1) := by decide +kernel
theorem dX5_ray_127 : decode cX5_ray 127 = .ok (.iload_n 3, 1) := by decide +kernel
theorem dX5_ray_128 : decode cX5_ray 128 = .ok (.iload 4, 2) := by decide +kernel
theorem dX5_ray_130 : decode cX5_ray 130 = .ok (.iload 14, 2) := by decide +kernel
theorem dX5_ray_132 : decode cX5_ray 132 = .ok (.invokevirtual 145, 3) := by decide +kernel
theorem dX5_ray_135 : decode cX5_ray 135 = .ok (.ifCond .eq 68, 3) := by decide +kernel
theorem dX5_ray_138 : decode cX5_ray 138 = .ok (.aload_n 0, 1) := by decide +kernel
theorem dX5_ray_139 : decode cX5_ray 139 = .ok (.aload_n 0, 1) := by decide +kernel
theorem dX5_ray_140 : decode cX5_ray 140 = .ok (.getfield 23, 3) := by decide +kernel
theorem dX5_ray_143 : decode cX5_ray 143 = .ok (.iload_n 2, 1) := by decide +kernel
theorem dX5_ray_144 : decode cX5_ray 144 = .ok (.iload 4, 2) := by decide +kernel
theorem dX5_ray_146 : decode cX5_ray 146 = .ok (.iload 14, 2) := by decide +kernel
theorem dX5_ray_148 : decode cX5_ray 148 = .ok (.invokestatic 96, 3) := by decide +kernel
theorem dX5_ray_151 : decode cX5_ray 151 = .ok (.iaload, 1) := by decide +kernel
theorem dX5_ray_152 : decode cX5_ray 152 = .ok (.invokevirtual 133, 3) := by decide +kernel
theorem dX5_ray_155 : decode cX5_ray 155 = .ok (.lload 6, 2) := by decide +kernel
theorem dX5_ray_157 : decode cX5_ray 157 = .ok (.lmul, 1) := by decide +kernel
theorem dX5_ray_158 : decode cX5_ray 158 = .ok (.aload_n 0, 1) := by decide +kernel
theorem dX5_ray_159 : decode cX5_ray 159 = .ok (.aload_n 0, 1) := by decide +kernel
theorem dX5_ray_160 : decode cX5_ray 160 = .ok (.getfield 23, 3) := by decide +kernel
theorem dX5_ray_163 : decode cX5_ray 163 = .ok (.iload_n 3, 1) := by decide +kernel
theorem dX5_ray_164 : decode cX5_ray 164 = .ok (.iload 4, 2) := by decide +kernel
theorem dX5_ray_166 : decode cX5_ray 166 = .ok (.iload 14, 2) := by decide +kernel
theorem dX5_ray_168 : decode cX5_ray 168 = .ok (.invokestatic 96, 3) := by decide +kernel
theorem dX5_ray_171 : decode cX5_ray 171 = .ok (.iaload, 1) := by decide +kernel
theorem dX5_ray_172 : decode cX5_ray 172 = .ok (.invokevirtual 133, 3) := by decide +kernel
theorem dX5_ray_175 : decode cX5_ray 175 = .ok (.lload 8, 2) := by decide +kernel
theorem dX5_ray_177 : decode cX5_ray 177 = .ok (.lmul, 1) := by decide +kernel
theorem dX5_ray_178 : decode cX5_ray 178 = .ok (.lsub, 1) := by decide +kernel
theorem dX5_ray_179 : decode cX5_ray 179 = .ok (.lstore 15, 2) := by decide +kernel
theorem dX5_ray_181 : decode cX5_ray 181 = .ok (.iload 11, 2) := by decide +kernel
theorem dX5_ray_183 : decode cX5_ray 183 = .ok (.iconst (-1), 1) := by decide +kernel
theorem dX5_ray_184 : decode cX5_ray 184 = .ok (.if_icmp .eq 11, 3) := by decide +kernel
theorem dX5_ray_187 : decode cX5_ray 187 = .ok (.lload 15, 2) := by decide +kernel
theorem dX5_ray_189 : decode cX5_ray 189 = .ok (.lload 12, 2) := by decide +kernel
theorem dX5_ray_191 : decode cX5_ray 191 = .ok (.lcmp, 1) := by decide +kernel
theorem dX5_ray_192 : decode cX5_ray 192 = .ok (.ifCond .le 11, 3) := by decide +kernel
theorem dX5_ray_195 : decode cX5_ray 195 = .ok (.iload 14, 2) := by decide +kernel
theorem dX5_ray_197 : decode cX5_ray 197 = .ok (.istore 11, 2) := by decide +kernel
theorem dX5_ray_199 : decode cX5_ray 199 = .ok (.lload 15, 2) := by decide +kernel
theorem dX5_ray_201 : decode cX5_ray 201 = .ok (.lstore 12, 2) := by decide +kernel
theorem dX5_ray_203 : decode cX5_ray 203 = .ok (.iinc 14 1, 3) := by decide +kernel
theorem dX5_ray_206 : decode cX5_ray 206 = .ok (.goto (-93), 3) := by decide +kernel
theorem dX5_ray_209 : decode cX5_ray 209 = .ok (.iload 10, 2) := by decide +kernel
theorem dX5_ray_211 : decode cX5_ray 211 = .ok (.iconst 3, 1) := by decide +kernel
theorem dX5_ray_212 : decode cX5_ray 212 = .ok (.if_icmp .lt 38, 3) := by decide +kernel
theorem dX5_ray_215 : decode cX5_ray 215 = .ok (.lload 12, 2) := by decide +kernel
theorem dX5_ray_217 : decode cX5_ray 217 = .ok (.iload 5, 2) := by decide +kernel
theorem dX5_ray_219 : decode cX5_ray 219 = .ok (.i2l, 1) := by decide +kernel
theorem dX5_ray_220 : decode cX5_ray 220 = .ok (.aload_n 0, 1) := by decide +kernel
theorem dX5_ray_221 : decode cX5_ray 221 = .ok (.aload_n 0, 1) := by decide +kernel
theorem dX5_ray_222 : decode cX5_ray 222 = .ok (.getfield 23, 3) := by decide +kernel
theorem dX5_ray_225 : decode cX5_ray 225 = .ok (.iload_n 3, 1) := by decide +kernel
theorem dX5_ray_226 : decode cX5_ray 226 = .ok (.iload 4, 2) := by decide +kernel
theorem dX5_ray_228 : decode cX5_ray 228 = .ok (.iload 11, 2) := by decide +kernel
theorem dX5_ray_230 : decode cX5_ray 230 = .ok (.invokestatic 96, 3) := by decide +kernel
theorem dX5_ray_233 : decode cX5_ray 233 = .ok (.iaload, 1) := by decide +kernel
theorem dX5_ray_234 : decode cX5_ray 234 = .ok (.invokevirtual 133, 3) := by decide +kernel
theorem dX5_ray_237 : decode cX5_ray 237 = .ok (.lmul, 1) := by decide +kernel
theorem dX5_ray_238 : decode cX5_ray 238 = .ok (.lload 8, 2) := by decide +kernel
theorem dX5_ray_240 : decode cX5_ray 240 = .ok (.lmul, 1) := by decide +kernel
theorem dX5_ray_241 : decode cX5_ray 241 = .ok (.lcmp, 1) := by decide +kernel
theorem dX5_ray_242 : decode cX5_ray 242 = .ok (.ifCond .le 8, 3) := by decide +kernel
theorem dX5_ray_245 : decode cX5_ray 245 = .ok (.iload 11, 2) := by decide +kernel
theorem dX5_ray_247 : decode cX5_ray 247 = .ok (.goto 4, 3) := by decide +kernel
theorem dX5_ray_250 : decode cX5_ray 250 = .ok (.iconst (-1), 1) := by decide +kernel
theorem dX5_ray_251 : decode cX5_ray 251 = .ok (.ireturn, 1) := by decide +kernel
theorem dX5_drawn_0 : decode cX5_drawn 0 = .ok (.iload 5, 2) := by decide +kernel
theorem dX5_drawn_2 : decode cX5_drawn 2 = .ok (.ifCond .ne 7, 3) := by decide +kernel
theorem dX5_drawn_5 : decode cX5_drawn 5 = .ok (.iconst (-1), 1) := by decide +kernel
theorem dX5_drawn_6 : decode cX5_drawn 6 = .ok (.goto 14, 3) := by decide +kernel
theorem dX5_drawn_9 : decode cX5_drawn 9 = .ok (.aload_n 0, 1) := by decide +kernel
theorem dX5_drawn_10 : decode cX5_drawn 10 = .ok (.iload_n 1, 1) := by decide +kernel
theorem dX5_drawn_11 : decode cX5_drawn 11 = .ok (.iload_n 2, 1) := by decide +kernel
theorem dX5_drawn_12 : decode cX5_drawn 12 = .ok (.iload_n 3, 1) := by decide +kernel
theorem dX5_drawn_13 : decode cX5_drawn 13 = .ok (.iload 4, 2) := by decide +kernel
theorem dX5_drawn_15 : decode cX5_drawn 15 = .ok (.iload 5, 2) := by decide +kernel
theorem dX5_drawn_17 : decode cX5_drawn 17 = .ok (.invokevirtual 148, 3) := by decide +kernel
theorem dX5_drawn_20 : decode cX5_drawn 20 = .ok (.istore 6, 2) := by decide +kernel
theorem dX5_drawn_22 : decode cX5_drawn 22 = .ok (.lconst 0, 1) := by decide +kernel
theorem dX5_drawn_23 : decode cX5_drawn 23 = .ok (.lstore 7, 2) := by decide +kernel
theorem dX5_drawn_25 : decode cX5_drawn 25 = .ok (.lconst 0, 1) := by decide +kernel
theorem dX5_drawn_26 : decode cX5_drawn 26 = .ok (.lstore 9, 2) := by decide +kernel
theorem dX5_drawn_28 : decode cX5_drawn 28 = .ok (.lconst 0, 1) := by decide +kernel
theorem dX5_drawn_29 : decode cX5_drawn 29 = .ok (.lstore 11, 2) := by decide +kernel
theorem dX5_drawn_31 : decode cX5_drawn 31 = .ok (.aload_n 0, 1) := by decide +kernel
theorem dX5_drawn_32 : decode cX5_drawn 32 = .ok (.iload_n 1, 1) := by decide +kernel
theorem dX5_drawn_33 : decode cX5_drawn 33 = .ok (.iload_n 2, 1) := by decide +kernel
theorem dX5_drawn_34 : decode cX5_drawn 34 = .ok (.iload 4, 2) := by decide +kernel
theorem dX5_drawn_36 : decode cX5_drawn 36 = .ok (.invokevirtual 127, 3) := by decide +kernel
theorem dX5_drawn_39 : decode cX5_drawn 39 = .ok (.istore 13, 2) := by decide +kernel
theorem dX5_drawn_41 : decode cX5_drawn 41 = .ok (.iload 13, 2) := by decide +kernel
theorem dX5_drawn_43 : decode cX5_drawn 43 = .ok (.aload_n 0, 1) := by decide +kernel
theorem dX5_drawn_44 : decode cX5_drawn 44 = .ok (.iload_n 1, 1) := by decide +kernel
theorem dX5_drawn_45 : decode cX5_drawn 45 = .ok (.iload_n 2, 1) := by decide +kernel
theorem dX5_drawn_46 : decode cX5_drawn 46 = .ok (.iload 4, 2) := by decide +kernel
theorem dX5_drawn_48 : decode cX5_drawn 48 = .ok (.invokevirtual 130, 3) := by decide +kernel
theorem dX5_drawn_51 : decode cX5_drawn 51 = .ok (.if_icmp .gt 89, 3) := by decide +kernel
theorem dX5_drawn_54 : decode cX5_drawn 54 = .ok (.aload_n 0, 1) := by decide +kernel
theorem dX5_drawn_55 : decode cX5_drawn 55 = .ok (.iload_n 3, 1) := by decide +kernel
theorem dX5_drawn_56 : decode cX5_drawn 56 = .ok (.iload 4, 2) := by decide +kernel
theorem dX5_drawn_58 : decode cX5_drawn 58 = .ok (.iload 13, 2) := by decide +kernel
theorem dX5_drawn_60 : decode cX5_drawn 60 = .ok (.invokevirtual 145, 3) := by decide +kernel
theorem dX5_drawn_63 : decode cX5_drawn 63 = .ok (.ifCond .eq 71, 3) := by decide +kernel
theorem dX5_drawn_66 : decode cX5_drawn 66 = .ok (.iload 13, 2) := by decide +kernel
theorem dX5_drawn_68 : decode cX5_drawn 68 = .ok (.iload 6, 2) := by decide +kernel
theorem dX5_drawn_70 : decode cX5_drawn 70 = .ok (.if_icmp .eq 64, 3) := by decide +kernel
theorem dX5_drawn_73 : decode cX5_drawn 73 = .ok (.aload_n 0, 1) := by decide +kernel
theorem dX5_drawn_74 : decode cX5_drawn 74 = .ok (.aload_n 0, 1) := by decide +kernel
theorem dX5_drawn_75 : decode cX5_drawn 75 = .ok (.getfield 23, 3) := by decide +kernel
theorem dX5_drawn_78 : decode cX5_drawn 78 = .ok (.iload_n 3, 1) := by decide +kernel
theorem dX5_drawn_79 : decode cX5_drawn 79 = .ok (.iload 4, 2) := by decide +kernel
theorem dX5_drawn_81 : decode cX5_drawn 81 = .ok (.iload 13, 2) := by decide +kernel
theorem dX5_drawn_83 : decode cX5_drawn 83 = .ok (.invokestatic 96, 3) := by decide +kernel
theorem dX5_drawn_86 : decode cX5_drawn 86 = .ok (.iaload, 1) := by decide +kernel
theorem dX5_drawn_87 : decode cX5_drawn 87 = .ok (.invokevirtual 133, 3) := by decide +kernel
theorem dX5_drawn_90 : decode cX5_drawn 90 = .ok (.lstore 14, 2) := by decide +kernel
theorem dX5_drawn_92 : decode cX5_drawn 92 = .ok (.lload 7, 2) := by decide +kernel
theorem dX5_drawn_94 : decode cX5_drawn 94 = .ok (.lload 14, 2) := by decide +kernel
theorem dX5_drawn_96 : decode cX5_drawn 96 = .ok (.ladd, 1) := by decide +kernel
theorem dX5_drawn_97 : decode cX5_drawn 97 = .ok (.lstore 7, 2) := by decide +kernel
theorem dX5_drawn_99 : decode cX5_drawn 99 = .ok (.lload 9, 2) := by decide +kernel
theorem dX5_drawn_101 : decode cX5_drawn 101 = .ok (.lload 14, 2) := by decide +kernel
theorem dX5_drawn_103 : decode cX5_drawn 103 = .ok (.lload 14, 2) := by decide +kernel
theorem dX5_drawn_105 : decode cX5_drawn 105 = .ok (.lmul, 1) := by decide +kernel
theorem dX5_drawn_106 : decode cX5_drawn 106 = .ok (.ladd, 1) := by decide +kernel
theorem dX5_drawn_107 : decode cX5_drawn 107 = .ok (.lstore 9, 2) := by decide +kernel
theorem dX5_drawn_109 : decode cX5_drawn 109 = .ok (.lload 11, 2) := by decide +kernel
theorem dX5_drawn_111 : decode cX5_drawn 111 = .ok (.lload 14, 2) := by decide +kernel
theorem dX5_drawn_113 : decode cX5_drawn 113 = .ok (.aload_n 0, 1) := by decide +kernel
theorem dX5_drawn_114 : decode cX5_drawn 114 = .ok (.aload_n 0, 1) := by decide +kernel
theorem dX5_drawn_115 : decode cX5_drawn 115 = .ok (.getfield 23, 3) := by decide +kernel
theorem dX5_drawn_118 : decode cX5_drawn 118 = .ok (.iload_n 2, 1) := by decide +kernel
theorem dX5_drawn_119 : decode cX5_drawn 119 = .ok (.iload 4, 2) := by decide +kernel
theorem dX5_drawn_121 : decode cX5_drawn 121 = .ok (.iload 13, 2) := by decide +kernel
theorem dX5_drawn_123 : decode cX5_drawn 123 = .ok (.invokestatic 96, 3) := by decide +kernel
theorem dX5_drawn_126 : decode cX5_drawn 126 = .ok (.iaload, 1) := by decide +kernel
theorem dX5_drawn_127 : decode cX5_drawn 127 = .ok (.invokevirtual 133, 3) := by decide +kernel
theorem dX5_drawn_130 : decode cX5_drawn 130 = .ok (.lmul, 1) := by decide +kernel
theorem dX5_drawn_131 : decode cX5_drawn 131 = .ok (.ladd, 1) := by decide +kernel
theorem dX5_drawn_132 : decode cX5_drawn 132 = .ok (.lstore 11, 2) := by decide +kernel
theorem dX5_drawn_134 : decode cX5_drawn 134 = .ok (.iinc 13 1, 3) := by decide +kernel
theorem dX5_drawn_137 : decode cX5_drawn 137 = .ok (.goto (-96), 3) := by decide +kernel
theorem dX5_drawn_140 : decode cX5_drawn 140 = .ok (.lload 9, 2) := by decide +kernel
theorem dX5_drawn_142 : decode cX5_drawn 142 = .ok (.lconst 0, 1) := by decide +kernel
theorem dX5_drawn_143 : decode cX5_drawn 143 = .ok (.lcmp, 1) := by decide +kernel
theorem dX5_drawn_144 : decode cX5_drawn 144 = .ok (.ifCond .ne 7, 3) := by decide +kernel
theorem dX5_drawn_147 : decode cX5_drawn 147 = .ok (.lconst 0, 1) := by decide +kernel
theorem dX5_drawn_148 : decode cX5_drawn 148 = .ok (.goto 11, 3) := by decide +kernel
theorem dX5_drawn_151 : decode cX5_drawn 151 = .ok (.lload 11, 2) := by decide +kernel
theorem dX5_drawn_153 : decode cX5_drawn 153 = .ok (.lload 7, 2) := by decide +kernel
theorem dX5_drawn_155 : decode cX5_drawn 155 = .ok (.lmul, 1) := by decide +kernel
theorem dX5_drawn_156 : decode cX5_drawn 156 = .ok (.lload 9, 2) := by decide +kernel
theorem dX5_drawn_158 : decode cX5_drawn 158 = .ok (.ldiv, 1) := by decide +kernel
theorem dX5_drawn_159 : decode cX5_drawn 159 = .ok (.lreturn, 1) := by decide +kernel
theorem dX5_draw_0 : decode cX5_draw 0 = .ok (.aload_n 0, 1) := by decide +kernel
theorem dX5_draw_1 : decode cX5_draw 1 = .ok (.iload_n 1, 1) := by decide +kernel
theorem dX5_draw_2 : decode cX5_draw 2 = .ok (.invokevirtual 117, 3) := by decide +kernel
theorem dX5_draw_5 : decode cX5_draw 5 = .ok (.ifCond .eq 17, 3) := by decide +kernel
theorem dX5_draw_8 : decode cX5_draw 8 = .ok (.iload_n 2, 1) := by decide +kernel
theorem dX5_draw_9 : decode cX5_draw 9 = .ok (.invokestatic 82, 3) := by decide +kernel
theorem dX5_draw_12 : decode cX5_draw 12 = .ok (.ifCond .eq 10, 3) := by decide +kernel
theorem dX5_draw_15 : decode cX5_draw 15 = .ok (.iload_n 3, 1) := by decide +kernel
theorem dX5_draw_16 : decode cX5_draw 16 = .ok (.invokestatic 82, 3) := by decide +kernel
theorem dX5_draw_19 : decode cX5_draw 19 = .ok (.ifCond .ne 6, 3) := by decide +kernel
theorem dX5_draw_22 : decode cX5_draw 22 = .ok (.bipush (-101), 2) := by decide +kernel
theorem dX5_draw_24 : decode cX5_draw 24 = .ok (.ireturn, 1) := by decide +kernel
theorem dX5_draw_25 : decode cX5_draw 25 = .ok (.iload 4, 2) := by decide +kernel
theorem dX5_draw_27 : decode cX5_draw 27 = .ok (.i2l, 1) := by decide +kernel
theorem dX5_draw_28 : decode cX5_draw 28 = .ok (.lconst 0, 1) := by decide +kernel
theorem dX5_draw_29 : decode cX5_draw 29 = .ok (.ldc2_w 152, 3) := by decide +kernel
theorem dX5_draw_32 : decode cX5_draw 32 = .ok (.invokestatic 75, 3) := by decide +kernel
theorem dX5_draw_35 : decode cX5_draw 35 = .ok (.ifCond .ne 6, 3) := by decide +kernel
theorem dX5_draw_38 : decode cX5_draw 38 = .ok (.bipush (-102), 2) := by decide +kernel
theorem dX5_draw_40 : decode cX5_draw 40 = .ok (.ireturn, 1) := by decide +kernel
theorem dX5_draw_41 : decode cX5_draw 41 = .ok (.aload_n 0, 1) := by decide +kernel
theorem dX5_draw_42 : decode cX5_draw 42 = .ok (.getfield 7, 3) := by decide +kernel
theorem dX5_draw_45 : decode cX5_draw 45 = .ok (.iload_n 2, 1) := by decide +kernel
theorem dX5_draw_46 : decode cX5_draw 46 = .ok (.baload, 1) := by decide +kernel
theorem dX5_draw_47 : decode cX5_draw 47 = .ok (.ifCond .eq 12, 3) := by decide +kernel
theorem dX5_draw_50 : decode cX5_draw 50 = .ok (.aload_n 0, 1) := by decide +kernel
theorem dX5_draw_51 : decode cX5_draw 51 = .ok (.getfield 7, 3) := by decide +kernel
theorem dX5_draw_54 : decode cX5_draw 54 = .ok (.iload_n 3, 1) := by decide +kernel
theorem dX5_draw_55 : decode cX5_draw 55 = .ok (.baload, 1) := by decide +kernel
theorem dX5_draw_56 : decode cX5_draw 56 = .ok (.ifCond .ne 10, 3) := by decide +kernel
theorem dX5_draw_59 : decode cX5_draw 59 = .ok (.aload_n 0, 1) := by decide +kernel
theorem dX5_draw_60 : decode cX5_draw 60 = .ok (.bipush (-11), 2) := by decide +kernel
theorem dX5_draw_62 : decode cX5_draw 62 = .ok (.invokevirtual 88, 3) := by decide +kernel
theorem dX5_draw_65 : decode cX5_draw 65 = .ok (.ireturn, 1) := by decide +kernel
theorem dX5_draw_66 : decode cX5_draw 66 = .ok (.aload_n 0, 1) := by decide +kernel
theorem dX5_draw_67 : decode cX5_draw 67 = .ok (.iload_n 2, 1) := by decide +kernel
theorem dX5_draw_68 : decode cX5_draw 68 = .ok (.iload_n 3, 1) := by decide +kernel
theorem dX5_draw_69 : decode cX5_draw 69 = .ok (.invokevirtual 104, 3) := by decide +kernel
theorem dX5_draw_72 : decode cX5_draw 72 = .ok (.ifCond .ne 10, 3) := by decide +kernel
theorem dX5_draw_75 : decode cX5_draw 75 = .ok (.aload_n 0, 1) := by decide +kernel
theorem dX5_draw_76 : decode cX5_draw 76 = .ok (.bipush (-15), 2) := by decide +kernel
theorem dX5_draw_78 : decode cX5_draw 78 = .ok (.invokevirtual 88, 3) := by decide +kernel
theorem dX5_draw_81 : decode cX5_draw 81 = .ok (.ireturn, 1) := by decide +kernel
theorem dX5_draw_82 : decode cX5_draw 82 = .ok (.aload_n 0, 1) := by decide +kernel
theorem dX5_draw_83 : decode cX5_draw 83 = .ok (.getfield 38, 3) := by decide +kernel
theorem dX5_draw_86 : decode cX5_draw 86 = .ok (.iload_n 1, 1) := by decide +kernel
theorem dX5_draw_87 : decode cX5_draw 87 = .ok (.aload_n 0, 1) := by decide +kernel
theorem dX5_draw_88 : decode cX5_draw 88 = .ok (.getfield 17, 3) := by decide +kernel
theorem dX5_draw_91 : decode cX5_draw 91 = .ok (.iload_n 2, 1) := by decide +kernel
theorem dX5_draw_92 : decode cX5_draw 92 = .ok (.iaload, 1) := by decide +kernel
theorem dX5_draw_93 : decode cX5_draw 93 = .ok (.iastore, 1) := by decide +kernel
theorem dX5_draw_94 : decode cX5_draw 94 = .ok (.aload_n 0, 1) := by decide +kernel
theorem dX5_draw_95 : decode cX5_draw 95 = .ok (.getfield 45, 3) := by decide +kernel
theorem dX5_draw_98 : decode cX5_draw 98 = .ok (.iload_n 1, 1) := by decide +kernel
theorem dX5_draw_99 : decode cX5_draw 99 = .ok (.iconst 0, 1) := by decide +kernel
theorem dX5_draw_100 : decode cX5_draw 100 = .ok (.bastore, 1) := by decide +kernel
theorem dX5_draw_101 : decode cX5_draw 101 = .ok (.iconst 0, 1) := by decide +kernel
theorem dX5_draw_102 : decode cX5_draw 102 = .ok (.istore 5, 2) := by decide +kernel
theorem dX5_draw_104 : decode cX5_draw 104 = .ok (.iload 5, 2) := by decide +kernel
end
section
theorem dX5_draw_106 : decode cX5_draw 106 = .ok (.aload_n 0, 1) := by decide +kernel
theorem dX5_draw_107 : decode cX5_draw 107 = .ok (.getfield 17, 3) := by decide +kernel
theorem dX5_draw_110 : decode cX5_draw 110 = .ok (.iload_n 2, 1) := by decide +kernel
theorem dX5_draw_111 : decode cX5_draw 111 = .ok (.iaload, 1) := by decide +kernel
theorem dX5_draw_112 : decode cX5_draw 112 = .ok (.if_icmp .ge 32, 3) := by decide +kernel
theorem dX5_draw_115 : decode cX5_draw 115 = .ok (.aload_n 0, 1) := by decide +kernel
theorem dX5_draw_116 : decode cX5_draw 116 = .ok (.getfield 41, 3) := by decide +kernel
theorem dX5_draw_119 : decode cX5_draw 119 = .ok (.bipush 20, 2) := by decide +kernel
theorem dX5_draw_121 : decode cX5_draw 121 = .ok (.iload_n 1, 1) := by decide +kernel
theorem dX5_draw_122 : decode cX5_draw 122 = .ok (.imul, 1) := by decide +kernel
theorem dX5_draw_123 : decode cX5_draw 123 = .ok (.iload 5, 2) := by decide +kernel
theorem dX5_draw_125 : decode cX5_draw 125 = .ok (.iadd, 1) := by decide +kernel
theorem dX5_draw_126 : decode cX5_draw 126 = .ok (.aload_n 0, 1) := by decide +kernel
theorem dX5_draw_127 : decode cX5_draw 127 = .ok (.iload_n 1, 1) := by decide +kernel
theorem dX5_draw_128 : decode cX5_draw 128 = .ok (.iload_n 2, 1) := by decide +kernel
theorem dX5_draw_129 : decode cX5_draw 129 = .ok (.iload_n 3, 1) := by decide +kernel
theorem dX5_draw_130 : decode cX5_draw 130 = .ok (.iload 5, 2) := by decide +kernel
theorem dX5_draw_132 : decode cX5_draw 132 = .ok (.iload 4, 2) := by decide +kernel
theorem dX5_draw_134 : decode cX5_draw 134 = .ok (.invokevirtual 154, 3) := by decide +kernel
theorem dX5_draw_137 : decode cX5_draw 137 = .ok (.lastore, 1) := by decide +kernel
theorem dX5_draw_138 : decode cX5_draw 138 = .ok (.iinc 5 1, 3) := by decide +kernel
theorem dX5_draw_141 : decode cX5_draw 141 = .ok (.goto (-37), 3) := by decide +kernel
theorem dX5_draw_144 : decode cX5_draw 144 = .ok (.aload_n 0, 1) := by decide +kernel
theorem dX5_draw_145 : decode cX5_draw 145 = .ok (.getfield 38, 3) := by decide +kernel
theorem dX5_draw_148 : decode cX5_draw 148 = .ok (.iload_n 1, 1) := by decide +kernel
theorem dX5_draw_149 : decode cX5_draw 149 = .ok (.iaload, 1) := by decide +kernel
theorem dX5_draw_150 : decode cX5_draw 150 = .ok (.ireturn, 1) := by decide +kernel
theorem dX5_number_0 : decode cX5_number 0 = .ok (.aload_n 0, 1) := by decide +kernel
theorem dX5_number_1 : decode cX5_number 1 = .ok (.iload_n 1, 1) := by decide +kernel
theorem dX5_number_2 : decode cX5_number 2 = .ok (.invokevirtual 117, 3) := by decide +kernel
theorem dX5_number_5 : decode cX5_number 5 = .ok (.ifCond .ne 7, 3) := by decide +kernel
theorem dX5_number_8 : decode cX5_number 8 = .ok (.ldc2_w 158, 3) := by decide +kernel
theorem dX5_number_11 : decode cX5_number 11 = .ok (.lreturn, 1) := by decide +kernel
theorem dX5_number_12 : decode cX5_number 12 = .ok (.iload_n 2, 1) := by decide +kernel
theorem dX5_number_13 : decode cX5_number 13 = .ok (.i2l, 1) := by decide +kernel
theorem dX5_number_14 : decode cX5_number 14 = .ok (.lconst 0, 1) := by decide +kernel
theorem dX5_number_15 : decode cX5_number 15 = .ok (.aload_n 0, 1) := by decide +kernel
theorem dX5_number_16 : decode cX5_number 16 = .ok (.getfield 38, 3) := by decide +kernel
theorem dX5_number_19 : decode cX5_number 19 = .ok (.iload_n 1, 1) := by decide +kernel
theorem dX5_number_20 : decode cX5_number 20 = .ok (.iaload, 1) := by decide +kernel
theorem dX5_number_21 : decode cX5_number 21 = .ok (.iconst 1, 1) := by decide +kernel
theorem dX5_number_22 : decode cX5_number 22 = .ok (.isub, 1) := by decide +kernel
theorem dX5_number_23 : decode cX5_number 23 = .ok (.i2l, 1) := by decide +kernel
theorem dX5_number_24 : decode cX5_number 24 = .ok (.invokestatic 75, 3) := by decide +kernel
theorem dX5_number_27 : decode cX5_number 27 = .ok (.ifCond .eq 17, 3) := by decide +kernel
theorem dX5_number_30 : decode cX5_number 30 = .ok (.aload_n 0, 1) := by decide +kernel
theorem dX5_number_31 : decode cX5_number 31 = .ok (.getfield 41, 3) := by decide +kernel
theorem dX5_number_34 : decode cX5_number 34 = .ok (.bipush 20, 2) := by decide +kernel
theorem dX5_number_36 : decode cX5_number 36 = .ok (.iload_n 1, 1) := by decide +kernel
theorem dX5_number_37 : decode cX5_number 37 = .ok (.imul, 1) := by decide +kernel
theorem dX5_number_38 : decode cX5_number 38 = .ok (.iload_n 2, 1) := by decide +kernel
theorem dX5_number_39 : decode cX5_number 39 = .ok (.iadd, 1) := by decide +kernel
theorem dX5_number_40 : decode cX5_number 40 = .ok (.laload, 1) := by decide +kernel
theorem dX5_number_41 : decode cX5_number 41 = .ok (.goto 6, 3) := by decide +kernel
theorem dX5_number_44 : decode cX5_number 44 = .ok (.ldc2_w 160, 3) := by decide +kernel
theorem dX5_number_47 : decode cX5_number 47 = .ok (.lreturn, 1) := by decide +kernel
theorem dX5_find_0 : decode cX5_find 0 = .ok (.aload_n 0, 1) := by decide +kernel
theorem dX5_find_1 : decode cX5_find 1 = .ok (.iconst 0, 1) := by decide +kernel
theorem dX5_find_2 : decode cX5_find 2 = .ok (.putfield 162, 3) := by decide +kernel
theorem dX5_find_5 : decode cX5_find 5 = .ok (.iconst 1, 1) := by decide +kernel
theorem dX5_find_6 : decode cX5_find 6 = .ok (.istore 4, 2) := by decide +kernel
theorem dX5_find_8 : decode cX5_find 8 = .ok (.iload 4, 2) := by decide +kernel
theorem dX5_find_10 : decode cX5_find 10 = .ok (.aload_n 0, 1) := by decide +kernel
theorem dX5_find_11 : decode cX5_find 11 = .ok (.getfield 38, 3) := by decide +kernel
theorem dX5_find_14 : decode cX5_find 14 = .ok (.iload_n 1, 1) := by decide +kernel
theorem dX5_find_15 : decode cX5_find 15 = .ok (.iaload, 1) := by decide +kernel
theorem dX5_find_16 : decode cX5_find 16 = .ok (.iconst 1, 1) := by decide +kernel
theorem dX5_find_17 : decode cX5_find 17 = .ok (.isub, 1) := by decide +kernel
theorem dX5_find_18 : decode cX5_find 18 = .ok (.if_icmp .ge 124, 3) := by decide +kernel
theorem dX5_find_21 : decode cX5_find 21 = .ok (.aload_n 0, 1) := by decide +kernel
theorem dX5_find_22 : decode cX5_find 22 = .ok (.getfield 41, 3) := by decide +kernel
theorem dX5_find_25 : decode cX5_find 25 = .ok (.bipush 20, 2) := by decide +kernel
theorem dX5_find_27 : decode cX5_find 27 = .ok (.iload_n 1, 1) := by decide +kernel
theorem dX5_find_28 : decode cX5_find 28 = .ok (.imul, 1) := by decide +kernel
theorem dX5_find_29 : decode cX5_find 29 = .ok (.iload 4, 2) := by decide +kernel
theorem dX5_find_31 : decode cX5_find 31 = .ok (.iadd, 1) := by decide +kernel
theorem dX5_find_32 : decode cX5_find 32 = .ok (.iconst 1, 1) := by decide +kernel
theorem dX5_find_33 : decode cX5_find 33 = .ok (.isub, 1) := by decide +kernel
theorem dX5_find_34 : decode cX5_find 34 = .ok (.laload, 1) := by decide +kernel
theorem dX5_find_35 : decode cX5_find 35 = .ok (.lstore 5, 2) := by decide +kernel
theorem dX5_find_37 : decode cX5_find 37 = .ok (.aload_n 0, 1) := by decide +kernel
theorem dX5_find_38 : decode cX5_find 38 = .ok (.getfield 41, 3) := by decide +kernel
theorem dX5_find_41 : decode cX5_find 41 = .ok (.bipush 20, 2) := by decide +kernel
theorem dX5_find_43 : decode cX5_find 43 = .ok (.iload_n 1, 1) := by decide +kernel
theorem dX5_find_44 : decode cX5_find 44 = .ok (.imul, 1) := by decide +kernel
theorem dX5_find_45 : decode cX5_find 45 = .ok (.iload 4, 2) := by decide +kernel
theorem dX5_find_47 : decode cX5_find 47 = .ok (.iadd, 1) := by decide +kernel
theorem dX5_find_48 : decode cX5_find 48 = .ok (.laload, 1) := by decide +kernel
theorem dX5_find_49 : decode cX5_find 49 = .ok (.lstore 7, 2) := by decide +kernel
theorem dX5_find_51 : decode cX5_find 51 = .ok (.aload_n 0, 1) := by decide +kernel
theorem dX5_find_52 : decode cX5_find 52 = .ok (.getfield 41, 3) := by decide +kernel
theorem dX5_find_55 : decode cX5_find 55 = .ok (.bipush 20, 2) := by decide +kernel
theorem dX5_find_57 : decode cX5_find 57 = .ok (.iload_n 1, 1) := by decide +kernel
theorem dX5_find_58 : decode cX5_find 58 = .ok (.imul, 1) := by decide +kernel
theorem dX5_find_59 : decode cX5_find 59 = .ok (.iload 4, 2) := by decide +kernel
theorem dX5_find_61 : decode cX5_find 61 = .ok (.iadd, 1) := by decide +kernel
theorem dX5_find_62 : decode cX5_find 62 = .ok (.iconst 1, 1) := by decide +kernel
theorem dX5_find_63 : decode cX5_find 63 = .ok (.iadd, 1) := by decide +kernel
theorem dX5_find_64 : decode cX5_find 64 = .ok (.laload, 1) := by decide +kernel
theorem dX5_find_65 : decode cX5_find 65 = .ok (.lstore 9, 2) := by decide +kernel
theorem dX5_find_67 : decode cX5_find 67 = .ok (.lload 7, 2) := by decide +kernel
theorem dX5_find_69 : decode cX5_find 69 = .ok (.lload 5, 2) := by decide +kernel
theorem dX5_find_71 : decode cX5_find 71 = .ok (.lcmp, 1) := by decide +kernel
theorem dX5_find_72 : decode cX5_find 72 = .ok (.ifCond .le 64, 3) := by decide +kernel
theorem dX5_find_75 : decode cX5_find 75 = .ok (.lload 7, 2) := by decide +kernel
theorem dX5_find_77 : decode cX5_find 77 = .ok (.lload 9, 2) := by decide +kernel
theorem dX5_find_79 : decode cX5_find 79 = .ok (.lcmp, 1) := by decide +kernel
theorem dX5_find_80 : decode cX5_find 80 = .ok (.ifCond .lt 56, 3) := by decide +kernel
theorem dX5_find_83 : decode cX5_find 83 = .ok (.lload 7, 2) := by decide +kernel
theorem dX5_find_85 : decode cX5_find 85 = .ok (.lload_n 2, 1) := by decide +kernel
theorem dX5_find_86 : decode cX5_find 86 = .ok (.lcmp, 1) := by decide +kernel
theorem dX5_find_87 : decode cX5_find 87 = .ok (.ifCond .lt 49, 3) := by decide +kernel
theorem dX5_find_90 : decode cX5_find 90 = .ok (.aload_n 0, 1) := by decide +kernel
theorem dX5_find_91 : decode cX5_find 91 = .ok (.getfield 66, 3) := by decide +kernel
theorem dX5_find_94 : decode cX5_find 94 = .ok (.aload_n 0, 1) := by decide +kernel
theorem dX5_find_95 : decode cX5_find 95 = .ok (.getfield 162, 3) := by decide +kernel
theorem dX5_find_98 : decode cX5_find 98 = .ok (.bipush 64, 2) := by decide +kernel
theorem dX5_find_100 : decode cX5_find 100 = .ok (.iload 4, 2) := by decide +kernel
theorem dX5_find_102 : decode cX5_find 102 = .ok (.imul, 1) := by decide +kernel
theorem dX5_find_103 : decode cX5_find 103 = .ok (.ldc2_w 165, 3) := by decide +kernel
theorem dX5_find_106 : decode cX5_find 106 = .ok (.lload 9, 2) := by decide +kernel
theorem dX5_find_108 : decode cX5_find 108 = .ok (.lload 5, 2) := by decide +kernel
theorem dX5_find_110 : decode cX5_find 110 = .ok (.lsub, 1) := by decide +kernel
theorem dX5_find_111 : decode cX5_find 111 = .ok (.lmul, 1) := by decide +kernel
theorem dX5_find_112 : decode cX5_find 112 = .ok (.lload 5, 2) := by decide +kernel
theorem dX5_find_114 : decode cX5_find 114 = .ok (.lload 7, 2) := by decide +kernel
theorem dX5_find_116 : decode cX5_find 116 = .ok (.ladd, 1) := by decide +kernel
theorem dX5_find_117 : decode cX5_find 117 = .ok (.lload 9, 2) := by decide +kernel
theorem dX5_find_119 : decode cX5_find 119 = .ok (.ladd, 1) := by decide +kernel
theorem dX5_find_120 : decode cX5_find 120 = .ok (.invokestatic 120, 3) := by decide +kernel
theorem dX5_find_123 : decode cX5_find 123 = .ok (.l2i, 1) := by decide +kernel
theorem dX5_find_124 : decode cX5_find 124 = .ok (.iadd, 1) := by decide +kernel
theorem dX5_find_125 : decode cX5_find 125 = .ok (.iastore, 1) := by decide +kernel
theorem dX5_find_126 : decode cX5_find 126 = .ok (.aload_n 0, 1) := by decide +kernel
theorem dX5_find_127 : decode cX5_find 127 = .ok (.dup, 1) := by decide +kernel
theorem dX5_find_128 : decode cX5_find 128 = .ok (.getfield 162, 3) := by decide +kernel
theorem dX5_find_131 : decode cX5_find 131 = .ok (.iconst 1, 1) := by decide +kernel
theorem dX5_find_132 : decode cX5_find 132 = .ok (.iadd, 1) := by decide +kernel
theorem dX5_find_133 : decode cX5_find 133 = .ok (.putfield 162, 3) := by decide +kernel
theorem dX5_find_136 : decode cX5_find 136 = .ok (.iinc 4 1, 3) := by decide +kernel
theorem dX5_find_139 : decode cX5_find 139 = .ok (.goto (-131), 3) := by decide +kernel
theorem dX5_find_142 : decode cX5_find 142 = .ok (.return_, 1) := by decide +kernel
theorem dX5_peaks_0 : decode cX5_peaks 0 = .ok (.aload_n 0, 1) := by decide +kernel
theorem dX5_peaks_1 : decode cX5_peaks 1 = .ok (.iload_n 1, 1) := by decide +kernel
theorem dX5_peaks_2 : decode cX5_peaks 2 = .ok (.invokevirtual 117, 3) := by decide +kernel
theorem dX5_peaks_5 : decode cX5_peaks 5 = .ok (.ifCond .ne 6, 3) := by decide +kernel
theorem dX5_peaks_8 : decode cX5_peaks 8 = .ok (.bipush (-101), 2) := by decide +kernel
theorem dX5_peaks_10 : decode cX5_peaks 10 = .ok (.ireturn, 1) := by decide +kernel
theorem dX5_peaks_11 : decode cX5_peaks 11 = .ok (.lload_n 2, 1) := by decide +kernel
theorem dX5_peaks_12 : decode cX5_peaks 12 = .ok (.lconst 1, 1) := by decide +kernel
theorem dX5_peaks_13 : decode cX5_peaks 13 = .ok (.lcmp, 1) := by decide +kernel
theorem dX5_peaks_14 : decode cX5_peaks 14 = .ok (.ifCond .ge 6, 3) := by decide +kernel
theorem dX5_peaks_17 : decode cX5_peaks 17 = .ok (.bipush (-102), 2) := by decide +kernel
theorem dX5_peaks_19 : decode cX5_peaks 19 = .ok (.ireturn, 1) := by decide +kernel
theorem dX5_peaks_20 : decode cX5_peaks 20 = .ok (.aload_n 0, 1) := by decide +kernel
theorem dX5_peaks_21 : decode cX5_peaks 21 = .ok (.iload_n 1, 1) := by decide +kernel
theorem dX5_peaks_22 : decode cX5_peaks 22 = .ok (.lload_n 2, 1) := by decide +kernel
theorem dX5_peaks_23 : decode cX5_peaks 23 = .ok (.invokevirtual 167, 3) := by decide +kernel
theorem dX5_peaks_26 : decode cX5_peaks 26 = .ok (.aload_n 0, 1) := by decide +kernel
theorem dX5_peaks_27 : decode cX5_peaks 27 = .ok (.getfield 162, 3) := by decide +kernel
theorem dX5_peaks_30 : decode cX5_peaks 30 = .ok (.ireturn, 1) := by decide +kernel
theorem dX5_peak_0 : decode cX5_peak 0 = .ok (.aload_n 0, 1) := by decide +kernel
theorem dX5_peak_1 : decode cX5_peak 1 = .ok (.iload_n 1, 1) := by decide +kernel
theorem dX5_peak_2 : decode cX5_peak 2 = .ok (.invokevirtual 117, 3) := by decide +kernel
theorem dX5_peak_5 : decode cX5_peak 5 = .ok (.ifCond .ne 6, 3) := by decide +kernel
theorem dX5_peak_8 : decode cX5_peak 8 = .ok (.bipush (-101), 2) := by decide +kernel
theorem dX5_peak_10 : decode cX5_peak 10 = .ok (.ireturn, 1) := by decide +kernel
theorem dX5_peak_11 : decode cX5_peak 11 = .ok (.lload_n 2, 1) := by decide +kernel
theorem dX5_peak_12 : decode cX5_peak 12 = .ok (.lconst 1, 1) := by decide +kernel
theorem dX5_peak_13 : decode cX5_peak 13 = .ok (.lcmp, 1) := by decide +kernel
theorem dX5_peak_14 : decode cX5_peak 14 = .ok (.ifCond .ge 6, 3) := by decide +kernel
theorem dX5_peak_17 : decode cX5_peak 17 = .ok (.bipush (-102), 2) := by decide +kernel
theorem dX5_peak_19 : decode cX5_peak 19 = .ok (.ireturn, 1) := by decide +kernel
theorem dX5_peak_20 : decode cX5_peak 20 = .ok (.aload_n 0, 1) := by decide +kernel
theorem dX5_peak_21 : decode cX5_peak 21 = .ok (.iload_n 1, 1) := by decide +kernel
theorem dX5_peak_22 : decode cX5_peak 22 = .ok (.lload_n 2, 1) := by decide +kernel
theorem dX5_peak_23 : decode cX5_peak 23 = .ok (.invokevirtual 167, 3) := by decide +kernel
theorem dX5_peak_26 : decode cX5_peak 26 = .ok (.iload 4, 2) := by decide +kernel
theorem dX5_peak_28 : decode cX5_peak 28 = .ok (.i2l, 1) := by decide +kernel
theorem dX5_peak_29 : decode cX5_peak 29 = .ok (.lconst 0, 1) := by decide +kernel
theorem dX5_peak_30 : decode cX5_peak 30 = .ok (.aload_n 0, 1) := by decide +kernel
theorem dX5_peak_31 : decode cX5_peak 31 = .ok (.getfield 162, 3) := by decide +kernel
theorem dX5_peak_34 : decode cX5_peak 34 = .ok (.iconst 1, 1) := by decide +kernel
theorem dX5_peak_35 : decode cX5_peak 35 = .ok (.isub, 1) := by decide +kernel
theorem dX5_peak_36 : decode cX5_peak 36 = .ok (.i2l, 1) := by decide +kernel
theorem dX5_peak_37 : decode cX5_peak 37 = .ok (.invokestatic 75, 3) := by decide +kernel
theorem dX5_peak_40 : decode cX5_peak 40 = .ok (.ifCond .eq 13, 3) := by decide +kernel
theorem dX5_peak_43 : decode cX5_peak 43 = .ok (.aload_n 0, 1) := by decide +kernel
theorem dX5_peak_44 : decode cX5_peak 44 = .ok (.getfield 66, 3) := by decide +kernel
theorem dX5_peak_47 : decode cX5_peak 47 = .ok (.iload 4, 2) := by decide +kernel
theorem dX5_peak_49 : decode cX5_peak 49 = .ok (.iaload, 1) := by decide +kernel
theorem dX5_peak_50 : decode cX5_peak 50 = .ok (.goto 4, 3) := by decide +kernel
theorem dX5_peak_53 : decode cX5_peak 53 = .ok (.iconst (-1), 1) := by decide +kernel
theorem dX5_peak_54 : decode cX5_peak 54 = .ok (.ireturn, 1) := by decide +kernel
theorem dX5_line_0 : decode cX5_line 0 = .ok (.iload_n 1, 1) := by decide +kernel
theorem dX5_line_1 : decode cX5_line 1 = .ok (.i2l, 1) := by decide +kernel
theorem dX5_line_2 : decode cX5_line 2 = .ok (.lconst 1, 1) := by decide +kernel
theorem dX5_line_3 : decode cX5_line 3 = .ok (.ldc2_w 171, 3) := by decide +kernel
theorem dX5_line_6 : decode cX5_line 6 = .ok (.invokestatic 75, 3) := by decide +kernel
theorem dX5_line_9 : decode cX5_line 9 = .ok (.ifCond .eq 25, 3) := by decide +kernel
theorem dX5_line_12 : decode cX5_line 12 = .ok (.aload_n 0, 1) := by decide +kernel
theorem dX5_line_13 : decode cX5_line 13 = .ok (.getfield 173, 3) := by decide +kernel
theorem dX5_line_16 : decode cX5_line 16 = .ok (.ifCond .le 21, 3) := by decide +kernel
theorem dX5_line_19 : decode cX5_line 19 = .ok (.iload_n 1, 1) := by decide +kernel
theorem dX5_line_20 : decode cX5_line 20 = .ok (.aload_n 0, 1) := by decide +kernel
theorem dX5_line_21 : decode cX5_line 21 = .ok (.getfield 57, 3) := by decide +kernel
theorem dX5_line_24 : decode cX5_line 24 = .ok (.aload_n 0, 1) := by decide +kernel
theorem dX5_line_25 : decode cX5_line 25 = .ok (.getfield 173, 3) := by decide +kernel
theorem dX5_line_28 : decode cX5_line 28 = .ok (.iconst 1, 1) := by decide +kernel
theorem dX5_line_29 : decode cX5_line 29 = .ok (.isub, 1) := by decide +kernel
theorem dX5_line_30 : decode cX5_line 30 = .ok (.iaload, 1) := by decide +kernel
theorem dX5_line_31 : decode cX5_line 31 = .ok (.if_icmp .gt 6, 3) := by decide +kernel
theorem dX5_line_34 : decode cX5_line 34 = .ok (.bipush (-102), 2) := by decide +kernel
theorem dX5_line_36 : decode cX5_line 36 = .ok (.ireturn, 1) := by decide +kernel
theorem dX5_line_37 : decode cX5_line 37 = .ok (.aload_n 0, 1) := by decide +kernel
theorem dX5_line_38 : decode cX5_line 38 = .ok (.getfield 173, 3) := by decide +kernel
theorem dX5_line_41 : decode cX5_line 41 = .ok (.bipush 12, 2) := by decide +kernel
theorem dX5_line_43 : decode cX5_line 43 = .ok (.if_icmp .ne 6, 3) := by decide +kernel
theorem dX5_line_46 : decode cX5_line 46 = .ok (.bipush (-104), 2) := by decide +kernel
theorem dX5_line_48 : decode cX5_line 48 = .ok (.ireturn, 1) := by decide +kernel
theorem dX5_line_49 : decode cX5_line 49 = .ok (.aload_n 0, 1) := by decide +kernel
theorem dX5_line_50 : decode cX5_line 50 = .ok (.getfield 57, 3) := by decide +kernel
theorem dX5_line_53 : decode cX5_line 53 = .ok (.aload_n 0, 1) := by decide +kernel
theorem dX5_line_54 : decode cX5_line 54 = .ok (.getfield 173, 3) := by decide +kernel
theorem dX5_line_57 : decode cX5_line 57 = .ok (.iload_n 1, 1) := by decide +kernel
theorem dX5_line_58 : decode cX5_line 58 = .ok (.iastore, 1) := by decide +kernel
theorem dX5_line_59 : decode cX5_line 59 = .ok (.aload_n 0, 1) := by decide +kernel
theorem dX5_line_60 : decode cX5_line 60 = .ok (.dup, 1) := by decide +kernel
theorem dX5_line_61 : decode cX5_line 61 = .ok (.getfield 173, 3) := by decide +kernel
theorem dX5_line_64 : decode cX5_line 64 = .ok (.iconst 1, 1) := by decide +kernel
theorem dX5_line_65 : decode cX5_line 65 = .ok (.iadd, 1) := by decide +kernel
theorem dX5_line_66 : decode cX5_line 66 = .ok (.putfield 173, 3) := by decide +kernel
theorem dX5_line_69 : decode cX5_line 69 = .ok (.aload_n 0, 1) := by decide +kernel
theorem dX5_line_70 : decode cX5_line 70 = .ok (.getfield 173, 3) := by decide +kernel
theorem dX5_line_73 : decode cX5_line 73 = .ok (.ireturn, 1) := by decide +kernel
theorem dX5_clear_0 : decode cX5_clear 0 = .ok (.aload_n 0, 1) := by decide +kernel
theorem dX5_clear_1 : decode cX5_clear 1 = .ok (.getfield 173, 3) := by decide +kernel
theorem dX5_clear_4 : decode cX5_clear 4 = .ok (.istore_n 1, 1) := by decide +kernel
theorem dX5_clear_5 : decode cX5_clear 5 = .ok (.aload_n 0, 1) := by decide +kernel
theorem dX5_clear_6 : decode cX5_clear 6 = .ok (.iconst 0, 1) := by decide +kernel
theorem dX5_clear_7 : decode cX5_clear 7 = .ok (.putfield 173, 3) := by decide +kernel
theorem dX5_clear_10 : decode cX5_clear 10 = .ok (.iload_n 1, 1) := by decide +kernel
theorem dX5_clear_11 : decode cX5_clear 11 = .ok (.ireturn, 1) := by decide +kernel
theorem dX5_waveOf_0 : decode cX5_waveOf 0 = .ok (.lload_n 0, 1) := by decide +kernel
theorem dX5_waveOf_1 : decode cX5_waveOf 1 = .ok (.lload_n 2, 1) := by decide +kernel
theorem dX5_waveOf_2 : decode cX5_waveOf 2 = .ok (.iload 4, 2) := by decide +kernel
theorem dX5_waveOf_4 : decode cX5_waveOf 4 = .ok (.i2l, 1) := by decide +kernel
theorem dX5_waveOf_5 : decode cX5_waveOf 5 = .ok (.lmul, 1) := by decide +kernel
theorem dX5_waveOf_6 : decode cX5_waveOf 6 = .ok (.ldc2_w 165, 3) := by decide +kernel
theorem dX5_waveOf_9 : decode cX5_waveOf 9 = .ok (.invokestatic 120, 3) := by decide +kernel
theorem dX5_waveOf_12 : decode cX5_waveOf 12 = .ok (.ladd, 1) := by decide +kernel
theorem dX5_waveOf_13 : decode cX5_waveOf 13 = .ok (.lreturn, 1) := by decide +kernel
theorem dX5_fitting_0 : decode cX5_fitting 0 = .ok (.iconst 0, 1) := by decide +kernel
theorem dX5_fitting_1 : decode cX5_fitting 1 = .ok (.istore 6, 2) := by decide +kernel
theorem dX5_fitting_3 : decode cX5_fitting 3 = .ok (.iconst 0, 1) := by decide +kernel
theorem dX5_fitting_4 : decode cX5_fitting 4 = .ok (.istore 7, 2) := by decide +kernel
theorem dX5_fitting_6 : decode cX5_fitting 6 = .ok (.iload 7, 2) := by decide +kernel
theorem dX5_fitting_8 : decode cX5_fitting 8 = .ok (.aload_n 0, 1) := by decide +kernel
theorem dX5_fitting_9 : decode cX5_fitting 9 = .ok (.getfield 162, 3) := by decide +kernel
theorem dX5_fitting_12 : decode cX5_fitting 12 = .ok (.if_icmp .ge 103, 3) := by decide +kernel
theorem dX5_fitting_15 : decode cX5_fitting 15 = .ok (.lload_n 1, 1) := by decide +kernel
theorem dX5_fitting_16 : decode cX5_fitting 16 = .ok (.lload_n 3, 1) := by decide +kernel
theorem dX5_fitting_17 : decode cX5_fitting 17 = .ok (.aload_n 0, 1) := by decide +kernel
theorem dX5_fitting_18 : decode cX5_fitting 18 = .ok (.getfield 66, 3) := by decide +kernel
theorem dX5_fitting_21 : decode cX5_fitting 21 = .ok (.iload 7, 2) := by decide +kernel
theorem dX5_fitting_23 : decode cX5_fitting 23 = .ok (.iaload, 1) := by decide +kernel
theorem dX5_fitting_24 : decode cX5_fitting 24 = .ok (.invokestatic 176, 3) := by decide +kernel
theorem dX5_fitting_27 : decode cX5_fitting 27 = .ok (.lstore 8, 2) := by decide +kernel
theorem dX5_fitting_29 : decode cX5_fitting 29 = .ok (.iconst 0, 1) := by decide +kernel
theorem dX5_fitting_30 : decode cX5_fitting 30 = .ok (.istore 10, 2) := by decide +kernel
theorem dX5_fitting_32 : decode cX5_fitting 32 = .ok (.iconst 0, 1) := by decide +kernel
theorem dX5_fitting_33 : decode cX5_fitting 33 = .ok (.istore 11, 2) := by decide +kernel
theorem dX5_fitting_35 : decode cX5_fitting 35 = .ok (.iload 11, 2) := by decide +kernel
theorem dX5_fitting_37 : decode cX5_fitting 37 = .ok (.aload_n 0, 1) := by decide +kernel
theorem dX5_fitting_38 : decode cX5_fitting 38 = .ok (.getfield 173, 3) := by decide +kernel
theorem dX5_fitting_41 : decode cX5_fitting 41 = .ok (.if_icmp .ge 53, 3) := by decide +kernel
theorem dX5_fitting_44 : decode cX5_fitting 44 = .ok (.iload 10, 2) := by decide +kernel
theorem dX5_fitting_46 : decode cX5_fitting 46 = .ok (.ifCond .ne 48, 3) := by decide +kernel
theorem dX5_fitting_49 : decode cX5_fitting 49 = .ok (.aload_n 0, 1) := by decide +kernel
theorem dX5_fitting_50 : decode cX5_fitting 50 = .ok (.getfield 57, 3) := by decide +kernel
theorem dX5_fitting_53 : decode cX5_fitting 53 = .ok (.iload 11, 2) := by decide +kernel
theorem dX5_fitting_55 : decode cX5_fitting 55 = .ok (.iaload, 1) := by decide +kernel
theorem dX5_fitting_56 : decode cX5_fitting 56 = .ok (.i2l, 1) := by decide +kernel
theorem dX5_fitting_57 : decode cX5_fitting 57 = .ok (.lload 8, 2) := by decide +kernel
theorem dX5_fitting_59 : decode cX5_fitting 59 = .ok (.lsub, 1) := by decide +kernel
theorem dX5_fitting_60 : decode cX5_fitting 60 = .ok (.lstore 12, 2) := by decide +kernel
theorem dX5_fitting_62 : decode cX5_fitting 62 = .ok (.lload 12, 2) := by decide +kernel
theorem dX5_fitting_64 : decode cX5_fitting 64 = .ok (.iload 5, 2) := by decide +kernel
theorem dX5_fitting_66 : decode cX5_fitting 66 = .ok (.i2l, 1) := by decide +kernel
theorem dX5_fitting_67 : decode cX5_fitting 67 = .ok (.lcmp, 1) := by decide +kernel
theorem dX5_fitting_68 : decode cX5_fitting 68 = .ok (.ifCond .gt 17, 3) := by decide +kernel
theorem dX5_fitting_71 : decode cX5_fitting 71 = .ok (.lload 12, 2) := by decide +kernel
theorem dX5_fitting_73 : decode cX5_fitting 73 = .ok (.lneg, 1) := by decide +kernel
theorem dX5_fitting_74 : decode cX5_fitting 74 = .ok (.iload 5, 2) := by decide +kernel
theorem dX5_fitting_76 : decode cX5_fitting 76 = .ok (.i2l, 1) := by decide +kernel
theorem dX5_fitting_77 : decode cX5_fitting 77 = .ok (.lcmp, 1) := by decide +kernel
theorem dX5_fitting_78 : decode cX5_fitting 78 = .ok (.ifCond .gt 7, 3) := by decide +kernel
theorem dX5_fitting_81 : decode cX5_fitting 81 = .ok (.iconst 1, 1) := by decide +kernel
theorem dX5_fitting_82 : decode cX5_fitting 82 = .ok (.goto 4, 3) := by decide +kernel
theorem dX5_fitting_85 : decode cX5_fitting 85 = .ok (.iconst 0, 1) := by decide +kernel
theorem dX5_fitting_86 : decode cX5_fitting 86 = .ok (.istore 10, 2) := by decide +kernel
theorem dX5_fitting_88 : decode cX5_fitting 88 = .ok (.iinc 11 1, 3) := by decide +kernel
theorem dX5_fitting_91 : decode cX5_fitting 91 = .ok (.goto (-56), 3) := by decide +kernel
theorem dX5_fitting_94 : decode cX5_fitting 94 = .ok (.iload 6, 2) := by decide +kernel
theorem dX5_fitting_96 : decode cX5_fitting 96 = .ok (.iload 10, 2) := by decide +kernel
theorem dX5_fitting_98 : decode cX5_fitting 98 = .ok (.ifCond .eq 7, 3) := by decide +kernel
theorem dX5_fitting_101 : decode cX5_fitting 101 = .ok (.iconst 1, 1) := by decide +kernel
theorem dX5_fitting_102 : decode cX5_fitting 102 = .ok (.goto 4, 3) := by decide +kernel
theorem dX5_fitting_105 : decode cX5_fitting 105 = .ok (.iconst 0, 1) := by decide +kernel
theorem dX5_fitting_106 : decode cX5_fitting 106 = .ok (.iadd, 1) := by decide +kernel
theorem dX5_fitting_107 : decode cX5_fitting 107 = .ok (.istore 6, 2) := by decide +kernel
theorem dX5_fitting_109 : decode cX5_fitting 109 = .ok (.iinc 7 1, 3) := by decide +kernel
theorem dX5_fitting_112 : decode cX5_fitting 112 = .ok (.goto (-106), 3) := by decide +kernel
theorem dX5_fitting_115 : decode cX5_fitting 115 = .ok (.iload 6, 2) := by decide +kernel
theorem dX5_fitting_117 : decode cX5_fitting 117 = .ok (.ireturn, 1) := by decide +kernel
theorem dX5_tryLaw_0 : decode cX5_tryLaw 0 = .ok (.ldc2_w 165, 3) := by decide +kernel
theorem dX5_tryLaw_3 : decode cX5_tryLaw 3 = .ok (.iload 4, 2) := by decide +kernel
theorem dX5_tryLaw_5 : decode cX5_tryLaw 5 = .ok (.iload_n 3, 1) := by decide +kernel
theorem dX5_tryLaw_6 : decode cX5_tryLaw 6 = .ok (.isub, 1) := by decide +kernel
theorem dX5_tryLaw_7 : decode cX5_tryLaw 7 = .ok (.i2l, 1) := by decide +kernel
theorem dX5_tryLaw_8 : decode cX5_tryLaw 8 = .ok (.lmul, 1) := by decide +kernel
theorem dX5_tryLaw_9 : decode cX5_tryLaw 9 = .ok (.iload_n 2, 1) := by decide +kernel
theorem dX5_tryLaw_10 : decode cX5_tryLaw 10 = .ok (.iload_n 1, 1) := by decide +kernel
theorem dX5_tryLaw_11 : decode cX5_tryLaw 11 = .ok (.isub, 1) := by decide +kernel
theorem dX5_tryLaw_12 : decode cX5_tryLaw 12 = .ok (.i2l, 1) := by decide +kernel
theorem dX5_tryLaw_13 : decode cX5_tryLaw 13 = .ok (.ldiv, 1) := by decide +kernel
theorem dX5_tryLaw_14 : decode cX5_tryLaw 14 = .ok (.lstore 6, 2) := by decide +kernel
theorem dX5_tryLaw_16 : decode cX5_tryLaw 16 = .ok (.lload 6, 2) := by decide +kernel
theorem dX5_tryLaw_18 : decode cX5_tryLaw 18 = .ok (.lconst 1, 1) := by decide +kernel
theorem dX5_tryLaw_19 : decode cX5_tryLaw 19 = .ok (.ldc2_w 143, 3) := by decide +kernel
theorem dX5_tryLaw_22 : decode cX5_tryLaw 22 = .ok (.invokestatic 75, 3) := by decide +kernel
theorem dX5_tryLaw_25 : decode cX5_tryLaw 25 = .ok (.ifCond .ne 4, 3) := by decide +kernel
theorem dX5_tryLaw_28 : decode cX5_tryLaw 28 = .ok (.return_, 1) := by decide +kernel
theorem dX5_tryLaw_29 : decode cX5_tryLaw 29 = .ok (.iload_n 3, 1) := by decide +kernel
theorem dX5_tryLaw_30 : decode cX5_tryLaw 30 = .ok (.i2l, 1) := by decide +kernel
theorem dX5_tryLaw_31 : decode cX5_tryLaw 31 = .ok (.lload 6, 2) := by decide +kernel
theorem dX5_tryLaw_33 : decode cX5_tryLaw 33 = .ok (.iload_n 1, 1) := by decide +kernel
theorem dX5_tryLaw_34 : decode cX5_tryLaw 34 = .ok (.i2l, 1) := by decide +kernel
theorem dX5_tryLaw_35 : decode cX5_tryLaw 35 = .ok (.lmul, 1) := by decide +kernel
theorem dX5_tryLaw_36 : decode cX5_tryLaw 36 = .ok (.ldc2_w 165, 3) := by decide +kernel
theorem dX5_tryLaw_39 : decode cX5_tryLaw 39 = .ok (.invokestatic 120, 3) := by decide +kernel
theorem dX5_tryLaw_42 : decode cX5_tryLaw 42 = .ok (.lsub, 1) := by decide +kernel
theorem dX5_tryLaw_43 : decode cX5_tryLaw 43 = .ok (.lstore 8, 2) := by decide +kernel
theorem dX5_tryLaw_45 : decode cX5_tryLaw 45 = .ok (.lload 8, 2) := by decide +kernel
theorem dX5_tryLaw_47 : decode cX5_tryLaw 47 = .ok (.ldc2_w 180, 3) := by decide +kernel
theorem dX5_tryLaw_50 : decode cX5_tryLaw 50 = .ok (.ldc2_w 171, 3) := by decide +kernel
theorem dX5_tryLaw_53 : decode cX5_tryLaw 53 = .ok (.invokestatic 75, 3) := by decide +kernel
theorem dX5_tryLaw_56 : decode cX5_tryLaw 56 = .ok (.ifCond .ne 4, 3) := by decide +kernel
theorem dX5_tryLaw_59 : decode cX5_tryLaw 59 = .ok (.return_, 1) := by decide +kernel
theorem dX5_tryLaw_60 : decode cX5_tryLaw 60 = .ok (.aload_n 0, 1) := by decide +kernel
theorem dX5_tryLaw_61 : decode cX5_tryLaw 61 = .ok (.lload 8, 2) := by decide +kernel
theorem dX5_tryLaw_63 : decode cX5_tryLaw 63 = .ok (.lload 6, 2) := by decide +kernel
theorem dX5_tryLaw_65 : decode cX5_tryLaw 65 = .ok (.iload 5, 2) := by decide +kernel
theorem dX5_tryLaw_67 : decode cX5_tryLaw 67 = .ok (.invokevirtual 182, 3) := by decide +kernel
theorem dX5_tryLaw_70 : decode cX5_tryLaw 70 = .ok (.istore 10, 2) := by decide +kernel
theorem dX5_tryLaw_72 : decode cX5_tryLaw 72 = .ok (.iload 10, 2) := by decide +kernel
theorem dX5_tryLaw_74 : decode cX5_tryLaw 74 = .ok (.iconst 2, 1) := by decide +kernel
theorem dX5_tryLaw_75 : decode cX5_tryLaw 75 = .ok (.if_icmp .lt 69, 3) := by decide +kernel
theorem dX5_tryLaw_78 : decode cX5_tryLaw 78 = .ok (.iload 10, 2) := by decide +kernel
theorem dX5_tryLaw_80 : decode cX5_tryLaw 80 = .ok (.aload_n 0, 1) := by decide +kernel
theorem dX5_tryLaw_81 : decode cX5_tryLaw 81 = .ok (.getfield 186, 3) := by decide +kernel
theorem dX5_tryLaw_84 : decode cX5_tryLaw 84 = .ok (.if_icmp .gt 42, 3) := by decide +kernel
theorem dX5_tryLaw_87 : decode cX5_tryLaw 87 = .ok (.iload 10, 2) := by decide +kernel
theorem dX5_tryLaw_89 : decode cX5_tryLaw 89 = .ok (.aload_n 0, 1) := by decide +kernel
theorem dX5_tryLaw_90 : decode cX5_tryLaw 90 = .ok (.getfield 186, 3) := by decide +kernel
theorem dX5_tryLaw_93 : decode cX5_tryLaw 93 = .ok (.if_icmp .ne 51, 3) := by decide +kernel
theorem dX5_tryLaw_96 : decode cX5_tryLaw 96 = .ok (.lload 6, 2) := by decide +kernel
theorem dX5_tryLaw_98 : decode cX5_tryLaw 98 = .ok (.aload_n 0, 1) := by decide +kernel
theorem dX5_tryLaw_99 : decode cX5_tryLaw 99 = .ok (.getfield 189, 3) := by decide +kernel
theorem dX5_tryLaw_102 : decode cX5_tryLaw 102 = .ok (.lcmp, 1) := by decide +kernel
theorem dX5_tryLaw_103 : decode cX5_tryLaw 103 = .ok (.ifCond .lt 23, 3) := by decide +kernel
theorem dX5_tryLaw_106 : decode cX5_tryLaw 106 = .ok (.lload 6, 2) := by decide +kernel
theorem dX5_tryLaw_108 : decode cX5_tryLaw 108 = .ok (.aload_n 0, 1) := by decide +kernel
theorem dX5_tryLaw_109 : decode cX5_tryLaw 109 = .ok (.getfield 189, 3) := by decide +kernel
theorem dX5_tryLaw_112 : decode cX5_tryLaw 112 = .ok (.lcmp, 1) := by decide +kernel
theorem dX5_tryLaw_113 : decode cX5_tryLaw 113 = .ok (.ifCond .ne 31, 3) := by decide +kernel
theorem dX5_tryLaw_116 : decode cX5_tryLaw 116 = .ok (.lload 8, 2) := by decide +kernel
theorem dX5_tryLaw_118 : decode cX5_tryLaw 118 = .ok (.aload_n 0, 1) := by decide +kernel
theorem dX5_tryLaw_119 : decode cX5_tryLaw 119 = .ok (.getfield 193, 3) := by decide +kernel
theorem dX5_tryLaw_122 : decode cX5_tryLaw 122 = .ok (.lcmp, 1) := by decide +kernel
theorem dX5_tryLaw_123 : decode cX5_tryLaw 123 = .ok (.ifCond .ge 21, 3) := by decide +kernel
theorem dX5_tryLaw_126 : decode cX5_tryLaw 126 = .ok (.aload_n 0, 1) := by decide +kernel
theorem dX5_tryLaw_127 : decode cX5_tryLaw 127 = .ok (.iload 10, 2) := by decide +kernel
theorem dX5_tryLaw_129 : decode cX5_tryLaw 129 = .ok (.putfield 186, 3) := by decide +kernel
theorem dX5_tryLaw_132 : decode cX5_tryLaw 132 = .ok (.aload_n 0, 1) := by decide +kernel
theorem dX5_tryLaw_133 : decode cX5_tryLaw 133 = .ok (.lload 8, 2) := by decide +kernel
theorem dX5_tryLaw_135 : decode cX5_tryLaw 135 = .ok (.putfield 193, 3) := by decide +kernel
theorem dX5_tryLaw_138 : decode cX5_tryLaw 138 = .ok (.aload_n 0, 1) := by decide +kernel
theorem dX5_tryLaw_139 : decode cX5_tryLaw 139 = .ok (.lload 6, 2) := by decide +kernel
theorem dX5_tryLaw_141 : decode cX5_tryLaw 141 = .ok (.putfield 189, 3) := by decide +kernel
theorem dX5_tryLaw_144 : decode cX5_tryLaw 144 = .ok (.return_, 1) := by decide +kernel
theorem dX5_match_0 : decode cX5_match 0 = .ok (.aload_n 0, 1) := by decide +kernel
theorem dX5_match_1 : decode cX5_match 1 = .ok (.iload_n 1, 1) := by decide +kernel
theorem dX5_match_2 : decode cX5_match 2 = .ok (.invokevirtual 117, 3) := by decide +kernel
theorem dX5_match_5 : decode cX5_match 5 = .ok (.ifCond .ne 6, 3) := by decide +kernel
theorem dX5_match_8 : decode cX5_match 8 = .ok (.bipush (-101), 2) := by decide +kernel
theorem dX5_match_10 : decode cX5_match 10 = .ok (.ireturn, 1) := by decide +kernel
theorem dX5_match_11 : decode cX5_match 11 = .ok (.lload_n 2, 1) := by decide +kernel
theorem dX5_match_12 : decode cX5_match 12 = .ok (.lconst 1, 1) := by decide +kernel
theorem dX5_match_13 : decode cX5_match 13 = .ok (.lcmp, 1) := by decide +kernel
theorem dX5_match_14 : decode cX5_match 14 = .ok (.ifCond .lt 16, 3) := by decide +kernel
theorem dX5_match_17 : decode cX5_match 17 = .ok (.iload 4, 2) := by decide +kernel
theorem dX5_match_19 : decode cX5_match 19 = .ok (.i2l, 1) := by decide +kernel
theorem dX5_match_20 : decode cX5_match 20 = .ok (.lconst 0, 1) := by decide +kernel
theorem dX5_match_21 : decode cX5_match 21 = .ok (.ldc2_w 196, 3) := by decide +kernel
theorem dX5_match_24 : decode cX5_match 24 = .ok (.invokestatic 75, 3) := by decide +kernel
theorem dX5_match_27 : decode cX5_match 27 = .ok (.ifCond .ne 6, 3) := by decide +kernel
theorem dX5_match_30 : decode cX5_match 30 = .ok (.bipush (-102), 2) := by decide +kernel
theorem dX5_match_32 : decode cX5_match 32 = .ok (.ireturn, 1) := by decide +kernel
theorem dX5_match_33 : decode cX5_match 33 = .ok (.aload_n 0, 1) := by decide +kernel
theorem dX5_match_34 : decode cX5_match 34 = .ok (.iload_n 1, 1) := by decide +kernel
theorem dX5_match_35 : decode cX5_match 35 = .ok (.lload_n 2, 1) := by decide +kernel
theorem dX5_match_36 : decode cX5_match 36 = .ok (.invokevirtual 167, 3) := by decide +kernel
theorem dX5_match_39 : decode cX5_match 39 = .ok (.aload_n 0, 1) := by decide +kernel
theorem dX5_match_40 : decode cX5_match 40 = .ok (.getfield 162, 3) := by decide +kernel
theorem dX5_match_43 : decode cX5_match 43 = .ok (.bipush 9, 2) := by decide +kernel
theorem dX5_match_45 : decode cX5_match 45 = .ok (.if_icmp .gt 13, 3) := by decide +kernel
theorem dX5_match_48 : decode cX5_match 48 = .ok (.aload_n 0, 1) := by decide +kernel
theorem dX5_match_49 : decode cX5_match 49 = .ok (.getfield 198, 3) := by decide +kernel
theorem dX5_match_52 : decode cX5_match 52 = .ok (.sipush 200, 3) := by decide +kernel
theorem dX5_match_55 : decode cX5_match 55 = .ok (.if_icmp .ne 6, 3) := by decide +kernel
theorem dX5_match_58 : decode cX5_match 58 = .ok (.bipush (-104), 2) := by decide +kernel
theorem dX5_match_60 : decode cX5_match 60 = .ok (.ireturn, 1) := by decide +kernel
theorem dX5_match_61 : decode cX5_match 61 = .ok (.aload_n 0, 1) := by decide +kernel
theorem dX5_match_62 : decode cX5_match 62 = .ok (.dup, 1) := by decide +kernel
theorem dX5_match_63 : decode cX5_match 63 = .ok (.getfield 198, 3) := by decide +kernel
theorem dX5_match_66 : decode cX5_match 66 = .ok (.iconst 1, 1) := by decide +kernel
theorem dX5_match_67 : decode cX5_match 67 = .ok (.iadd, 1) := by decide +kernel
theorem dX5_match_68 : decode cX5_match 68 = .ok (.putfield 198, 3) := by decide +kernel
theorem dX5_match_71 : decode cX5_match 71 = .ok (.aload_n 0, 1) := by decide +kernel
theorem dX5_match_72 : decode cX5_match 72 = .ok (.iconst 0, 1) := by decide +kernel
theorem dX5_match_73 : decode cX5_match 73 = .ok (.putfield 186, 3) := by decide +kernel
theorem dX5_match_76 : decode cX5_match 76 = .ok (.iconst 0, 1) := by decide +kernel
theorem dX5_match_77 : decode cX5_match 77 = .ok (.istore 5, 2) := by decide +kernel
theorem dX5_match_79 : decode cX5_match 79 = .ok (.iload 5, 2) := by decide +kernel
theorem dX5_match_81 : decode cX5_match 81 = .ok (.aload_n 0, 1) := by decide +kernel
theorem dX5_match_82 : decode cX5_match 82 = .ok (.getfield 162, 3) := by decide +kernel
theorem dX5_match_85 : decode cX5_match 85 = .ok (.if_icmp .ge 103, 3) := by decide +kernel
theorem dX5_match_88 : decode cX5_match 88 = .ok (.iload 5, 2) := by decide +kernel
theorem dX5_match_90 : decode cX5_match 90 = .ok (.iconst 1, 1) := by decide +kernel
theorem dX5_match_91 : decode cX5_match 91 = .ok (.iadd, 1) := by decide +kernel
theorem dX5_match_92 : decode cX5_match 92 = .ok (.istore 6, 2) := by decide +kernel
theorem dX5_match_94 : decode cX5_match 94 = .ok (.iload 6, 2) := by decide +kernel
theorem dX5_match_96 : decode cX5_match 96 = .ok (.aload_n 0, 1) := by decide +kernel
theorem dX5_match_97 : decode cX5_match 97 = .ok (.getfield 162, 3) := by decide +kernel
theorem dX5_match_100 : decode cX5_match 100 = .ok (.if_icmp .ge 82, 3) := by decide +kernel
theorem dX5_match_103 : decode cX5_match 103 = .ok (.iconst 0, 1) := by decide +kernel
theorem dX5_match_104 : decode cX5_match 104 = .ok (.istore 7, 2) := by decide +kernel
theorem dX5_match_106 : decode cX5_match 106 = .ok (.iload 7, 2) := by decide +kernel
theorem dX5_match_108 : decode cX5_match 108 = .ok (.aload_n 0, 1) := by decide +kernel
theorem dX5_match_109 : decode cX5_match 109 = .ok (.getfield 173, 3) := by decide +kernel
theorem dX5_match_112 : decode cX5_match 112 = .ok (.if_icmp .ge 64, 3) := by decide +kernel
theorem dX5_match_115 : decode cX5_match 115 = .ok (.iload 7, 2) := by decide +kernel
theorem dX5_match_117 : decode cX5_match 117 = .ok (.iconst 1, 1) := by decide +kernel
theorem dX5_match_118 : decode cX5_match 118 = .ok (.iadd, 1) := by decide +kernel
theorem dX5_match_119 : decode cX5_match 119 = .ok (.istore 8, 2) := by decide +kernel
theorem dX5_match_121 : decode cX5_match 121 = .ok (.iload 8, 2) := by decide +kernel
theorem dX5_match_123 : decode cX5_match 123 = .ok (.aload_n 0, 1) := by decide +kernel
theorem dX5_match_124 : decode cX5_match 124 = .ok (.getfield 173, 3) := by decide +kernel
theorem dX5_match_127 : decode cX5_match 127 = .ok (.if_icmp .ge 43, 3) := by decide +kernel
theorem dX5_match_130 : decode cX5_match 130 = .ok (.aload_n 0, 1) := by decide +kernel
theorem dX5_match_131 : decode cX5_match 131 = .ok (.aload_n 0, 1) := by decide +kernel
theorem dX5_match_132 : decode cX5_match 132 = .ok (.getfield 66, 3) := by decide +kernel
theorem dX5_match_135 : decode cX5_match 135 = .ok (.iload 5, 2) := by decide +kernel
theorem dX5_match_137 : decode cX5_match 137 = .ok (.iaload, 1) := by decide +kernel
theorem dX5_match_138 : decode cX5_match 138 = .ok (.aload_n 0, 1) := by decide +kernel
theorem dX5_match_139 : decode cX5_match 139 = .ok (.getfield 66, 3) := by decide +kernel
theorem dX5_match_142 : decode cX5_match 142 = .ok (.iload 6, 2) := by decide +kernel
theorem dX5_match_144 : decode cX5_match 144 = .ok (.iaload, 1) := by decide +kernel
theorem dX5_match_145 : decode cX5_match 145 = .ok (.aload_n 0, 1) := by decide +kernel
theorem dX5_match_146 : decode cX5_match 146 = .ok (.getfield 57, 3) := by decide +kernel
theorem dX5_match_149 : decode cX5_match 149 = .ok (.iload 7, 2) := by decide +kernel
theorem dX5_match_151 : decode cX5_match 151 = .ok (.iaload, 1) := by decide +kernel
theorem dX5_match_152 : decode cX5_match 152 = .ok (.aload_n 0, 1) := by decide +kernel
theorem dX5_match_153 : decode cX5_match 153 = .ok (.getfield 57, 3) := by decide +kernel
theorem dX5_match_156 : decode cX5_match 156 = .ok (.iload 8, 2) := by decide +kernel
theorem dX5_match_158 : decode cX5_match 158 = .ok (.iaload, 1) := by decide +kernel
theorem dX5_match_159 : decode cX5_match 159 = .ok (.iload 4, 2) := by decide +kernel
theorem dX5_match_161 : decode cX5_match 161 = .ok (.invokevirtual 201, 3) := by decide +kernel
theorem dX5_match_164 : decode cX5_match 164 = .ok (.iinc 8 1, 3) := by decide +kernel
theorem dX5_match_167 : decode cX5_match 167 = .ok (.goto (-46), 3) := by decide +kernel
theorem dX5_match_170 : decode cX5_match 170 = .ok (.iinc 7 1, 3) := by decide +kernel
theorem dX5_match_173 : decode cX5_match 173 = .ok (.goto (-67), 3) := by decide +kernel
theorem dX5_match_176 : decode cX5_match 176 = .ok (.iinc 6 1, 3) := by decide +kernel
theorem dX5_match_179 : decode cX5_match 179 = .ok (.goto (-85), 3) := by decide +kernel
theorem dX5_match_182 : decode cX5_match 182 = .ok (.iinc 5 1, 3) := by decide +kernel
theorem dX5_match_185 : decode cX5_match 185 = .ok (.goto (-106), 3) := by decide +kernel
theorem dX5_match_188 : decode cX5_match 188 = .ok (.aload_n 0, 1) := by decide +kernel
theorem dX5_match_189 : decode cX5_match 189 = .ok (.getfield 186, 3) := by decide +kernel
theorem dX5_match_192 : decode cX5_match 192 = .ok (.ifCond .le 42, 3) := by decide +kernel
theorem dX5_match_195 : decode cX5_match 195 = .ok (.aload_n 0, 1) := by decide +kernel
theorem dX5_match_196 : decode cX5_match 196 = .ok (.getfield 45, 3) := by decide +kernel
theorem dX5_match_199 : decode cX5_match 199 = .ok (.iload_n 1, 1) := by decide +kernel
theorem dX5_match_200 : decode cX5_match 200 = .ok (.iconst 1, 1) := by decide +kernel
theorem dX5_match_201 : decode cX5_match 201 = .ok (.bastore, 1) := by decide +kernel
theorem dX5_match_202 : decode cX5_match 202 = .ok (.aload_n 0, 1) := by decide +kernel
theorem dX5_match_203 : decode cX5_match 203 = .ok (.getfield 48, 3) := by decide +kernel
theorem dX5_match_206 : decode cX5_match 206 = .ok (.iload_n 1, 1) := by decide +kernel
theorem dX5_match_207 : decode cX5_match 207 = .ok (.aload_n 0, 1) := by decide +kernel
theorem dX5_match_208 : decode cX5_match 208 = .ok (.getfield 193, 3) := by decide +kernel
theorem dX5_match_211 : decode cX5_match 211 = .ok (.l2i, 1) := by decide +kernel
theorem dX5_match_212 : decode cX5_match 212 = .ok (.iastore, 1) := by decide +kernel
theorem dX5_match_213 : decode cX5_match 213 = .ok (.aload_n 0, 1) := by decide +kernel
theorem dX5_match_214 : decode cX5_match 214 = .ok (.getfield 51, 3) := by decide +kernel
theorem dX5_match_217 : decode cX5_match 217 = .ok (.iload_n 1, 1) := by decide +kernel
theorem dX5_match_218 : decode cX5_match 218 = .ok (.aload_n 0, 1) := by decide +kernel
theorem dX5_match_219 : decode cX5_match 219 = .ok (.getfield 189, 3) := by decide +kernel
theorem dX5_match_222 : decode cX5_match 222 = .ok (.l2i, 1) := by decide +kernel
theorem dX5_match_223 : decode cX5_match 223 = .ok (.iastore, 1) := by decide +kernel
theorem dX5_match_224 : decode cX5_match 224 = .ok (.aload_n 0, 1) := by decide +kernel
theorem dX5_match_225 : decode cX5_match 225 = .ok (.getfield 54, 3) := by decide +kernel
theorem dX5_match_228 : decode cX5_match 228 = .ok (.iload_n 1, 1) := by decide +kernel
theorem dX5_match_229 : decode cX5_match 229 = .ok (.aload_n 0, 1) := by decide +kernel
theorem dX5_match_230 : decode cX5_match 230 = .ok (.getfield 186, 3) := by decide +kernel
theorem dX5_match_233 : decode cX5_match 233 = .ok (.iastore, 1) := by decide +kernel
theorem dX5_match_234 : decode cX5_match 234 = .ok (.aload_n 0, 1) := by decide +kernel
theorem dX5_match_235 : decode cX5_match 235 = .ok (.getfield 186, 3) := by decide +kernel
theorem dX5_match_238 : decode cX5_match 238 = .ok (.ireturn, 1) := by decide +kernel
theorem dX5_law_0 : decode cX5_law 0 = .ok (.aload_n 0, 1) := by decide +kernel
theorem dX5_law_1 : decode cX5_law 1 = .ok (.iload_n 1, 1) := by decide +kernel
theorem dX5_law_2 : decode cX5_law 2 = .ok (.invokevirtual 117, 3) := by decide +kernel
theorem dX5_law_5 : decode cX5_law 5 = .ok (.ifCond .ne 6, 3) := by decide +kernel
theorem dX5_law_8 : decode cX5_law 8 = .ok (.bipush (-101), 2) := by decide +kernel
theorem dX5_law_10 : decode cX5_law 10 = .ok (.ireturn, 1) := by decide +kernel
theorem dX5_law_11 : decode cX5_law 11 = .ok (.iload_n 2, 1) := by decide +kernel
theorem dX5_law_12 : decode cX5_law 12 = .ok (.i2l, 1) := by decide +kernel
theorem dX5_law_13 : decode cX5_law 13 = .ok (.ldc2_w 180, 3) := by decide +kernel
theorem dX5_law_16 : decode cX5_law 16 = .ok (.ldc2_w 171, 3) := by decide +kernel
theorem dX5_law_19 : decode cX5_law 19 = .ok (.invokestatic 75, 3) := by decide +kernel
theorem dX5_law_22 : decode cX5_law 22 = .ok (.ifCond .eq 15, 3) := by decide +kernel
theorem dX5_law_25 : decode cX5_law 25 = .ok (.iload_n 3, 1) := by decide +kernel
theorem dX5_law_26 : decode cX5_law 26 = .ok (.i2l, 1) := by decide +kernel
theorem dX5_law_27 : decode cX5_law 27 = .ok (.lconst 1, 1) := by decide +kernel
theorem dX5_law_28 : decode cX5_law 28 = .ok (.ldc2_w 143, 3) := by decide +kernel
theorem dX5_law_31 : decode cX5_law 31 = .ok (.invokestatic 75, 3) := by decide +kernel
theorem dX5_law_34 : decode cX5_law 34 = .ok (.ifCond .ne 6, 3) := by decide +kernel
theorem dX5_law_37 : decode cX5_law 37 = .ok (.bipush (-102), 2) := by decide +kernel
theorem dX5_law_39 : decode cX5_law 39 = .ok (.ireturn, 1) := by decide +kernel
theorem dX5_law_40 : decode cX5_law 40 = .ok (.aload_n 0, 1) := by decide +kernel
theorem dX5_law_41 : decode cX5_law 41 = .ok (.getfield 38, 3) := by decide +kernel
theorem dX5_law_44 : decode cX5_law 44 = .ok (.iload_n 1, 1) := by decide +kernel
theorem dX5_law_45 : decode cX5_law 45 = .ok (.iaload, 1) := by decide +kernel
theorem dX5_law_46 : decode cX5_law 46 = .ok (.ifCond .ne 6, 3) := by decide +kernel
theorem dX5_law_49 : decode cX5_law 49 = .ok (.bipush (-103), 2) := by decide +kernel
theorem dX5_law_51 : decode cX5_law 51 = .ok (.ireturn, 1) := by decide +kernel
theorem dX5_law_52 : decode cX5_law 52 = .ok (.aload_n 0, 1) := by decide +kernel
theorem dX5_law_53 : decode cX5_law 53 = .ok (.getfield 45, 3) := by decide +kernel
theorem dX5_law_56 : decode cX5_law 56 = .ok (.iload_n 1, 1) := by decide +kernel
theorem dX5_law_57 : decode cX5_law 57 = .ok (.iconst 1, 1) := by decide +kernel
theorem dX5_law_58 : decode cX5_law 58 = .ok (.bastore, 1) := by decide +kernel
theorem dX5_law_59 : decode cX5_law 59 = .ok (.aload_n 0, 1) := by decide +kernel
theorem dX5_law_60 : decode cX5_law 60 = .ok (.getfield 48, 3) := by decide +kernel
theorem dX5_law_63 : decode cX5_law 63 = .ok (.iload_n 1, 1) := by decide +kernel
theorem dX5_law_64 : decode cX5_law 64 = .ok (.iload_n 2, 1) := by decide +kernel
theorem dX5_law_65 : decode cX5_law 65 = .ok (.iastore, 1) := by decide +kernel
theorem dX5_law_66 : decode cX5_law 66 = .ok (.aload_n 0, 1) := by decide +kernel
theorem dX5_law_67 : decode cX5_law 67 = .ok (.getfield 51, 3) := by decide +kernel
theorem dX5_law_70 : decode cX5_law 70 = .ok (.iload_n 1, 1) := by decide +kernel
theorem dX5_law_71 : decode cX5_law 71 = .ok (.iload_n 3, 1) := by decide +kernel
theorem dX5_law_72 : decode cX5_law 72 = .ok (.iastore, 1) := by decide +kernel
theorem dX5_law_73 : decode cX5_law 73 = .ok (.aload_n 0, 1) := by decide +kernel
theorem dX5_law_74 : decode cX5_law 74 = .ok (.getfield 54, 3) := by decide +kernel
theorem dX5_law_77 : decode cX5_law 77 = .ok (.iload_n 1, 1) := by decide +kernel
theorem dX5_law_78 : decode cX5_law 78 = .ok (.iconst 0, 1) := by decide +kernel
theorem dX5_law_79 : decode cX5_law 79 = .ok (.iastore, 1) := by decide +kernel
theorem dX5_law_80 : decode cX5_law 80 = .ok (.iconst 1, 1) := by decide +kernel
theorem dX5_law_81 : decode cX5_law 81 = .ok (.ireturn, 1) := by decide +kernel
theorem dX5_wave_0 : decode cX5_wave 0 = .ok (.aload_n 0, 1) := by decide +kernel
theorem dX5_wave_1 : decode cX5_wave 1 = .ok (.iload_n 1, 1) := by decide +kernel
theorem dX5_wave_2 : decode cX5_wave 2 = .ok (.invokevirtual 117, 3) := by decide +kernel
theorem dX5_wave_5 : decode cX5_wave 5 = .ok (.ifCond .ne 6, 3) := by decide +kernel
theorem dX5_wave_8 : decode cX5_wave 8 = .ok (.ldc 205, 2) := by decide +kernel
theorem dX5_wave_10 : decode cX5_wave 10 = .ok (.ireturn, 1) := by decide +kernel
theorem dX5_wave_11 : decode cX5_wave 11 = .ok (.iload_n 2, 1) := by decide +kernel
theorem dX5_wave_12 : decode cX5_wave 12 = .ok (.i2l, 1) := by decide +kernel
theorem dX5_wave_13 : decode cX5_wave 13 = .ok (.lconst 0, 1) := by decide +kernel
theorem dX5_wave_14 : decode cX5_wave 14 = .ok (.ldc2_w 206, 3) := by decide +kernel
theorem dX5_wave_17 : decode cX5_wave 17 = .ok (.invokestatic 75, 3) := by decide +kernel
theorem dX5_wave_20 : decode cX5_wave 20 = .ok (.ifCond .ne 6, 3) := by decide +kernel
theorem dX5_wave_23 : decode cX5_wave 23 = .ok (.ldc 208, 2) := by decide +kernel
theorem dX5_wave_25 : decode cX5_wave 25 = .ok (.ireturn, 1) := by decide +kernel
theorem dX5_wave_26 : decode cX5_wave 26 = .ok (.aload_n 0, 1) := by decide +kernel
theorem dX5_wave_27 : decode cX5_wave 27 = .ok (.getfield 45, 3) := by decide +kernel
theorem dX5_wave_30 : decode cX5_wave 30 = .ok (.iload_n 1, 1) := by decide +kernel
theorem dX5_wave_31 : decode cX5_wave 31 = .ok (.baload, 1) := by decide +kernel
theorem dX5_wave_32 : decode cX5_wave 32 = .ok (.ifCond .eq 25, 3) := by decide +kernel
theorem dX5_wave_35 : decode cX5_wave 35 = .ok (.aload_n 0, 1) := by decide +kernel
theorem dX5_wave_36 : decode cX5_wave 36 = .ok (.getfield 48, 3) := by decide +kernel
theorem dX5_wave_39 : decode cX5_wave 39 = .ok (.iload_n 1, 1) := by decide +kernel
theorem dX5_wave_40 : decode cX5_wave 40 = .ok (.iaload, 1) := by decide +kernel
theorem dX5_wave_41 : decode cX5_wave 41 = .ok (.i2l, 1) := by decide +kernel
theorem dX5_wave_42 : decode cX5_wave 42 = .ok (.aload_n 0, 1) := by decide +kernel
theorem dX5_wave_43 : decode cX5_wave 43 = .ok (.getfield 51, 3) := by decide +kernel
theorem dX5_wave_46 : decode cX5_wave 46 = .ok (.iload_n 1, 1) := by decide +kernel
theorem dX5_wave_47 : decode cX5_wave 47 = .ok (.iaload, 1) := by decide +kernel
theorem dX5_wave_48 : decode cX5_wave 48 = .ok (.i2l, 1) := by decide +kernel
theorem dX5_wave_49 : decode cX5_wave 49 = .ok (.iload_n 2, 1) := by decide +kernel
theorem dX5_wave_50 : decode cX5_wave 50 = .ok (.invokestatic 176, 3) := by decide +kernel
theorem dX5_wave_53 : decode cX5_wave 53 = .ok (.l2i, 1) := by decide +kernel
theorem dX5_wave_54 : decode cX5_wave 54 = .ok (.goto 5, 3) := by decide +kernel
theorem dX5_wave_57 : decode cX5_wave 57 = .ok (.ldc 209, 2) := by decide +kernel
theorem dX5_wave_59 : decode cX5_wave 59 = .ok (.ireturn, 1) := by decide +kernel
theorem dX5_columnFor_0 : decode cX5_columnFor 0 = .ok (.lload_n 2, 1) := by decide +kernel
theorem dX5_columnFor_1 : decode cX5_columnFor 1 = .ok (.aload_n 0, 1) := by decide +kernel
theorem dX5_columnFor_2 : decode cX5_columnFor 2 = .ok (.getfield 48, 3) := by decide +kernel
theorem dX5_columnFor_5 : decode cX5_columnFor 5 = .ok (.iload_n 1, 1) := by decide +kernel
theorem dX5_columnFor_6 : decode cX5_columnFor 6 = .ok (.iaload, 1) := by decide +kernel
theorem dX5_columnFor_7 : decode cX5_columnFor 7 = .ok (.i2l, 1) := by decide +kernel
theorem dX5_columnFor_8 : decode cX5_columnFor 8 = .ok (.lsub, 1) := by decide +kernel
theorem dX5_columnFor_9 : decode cX5_columnFor 9 = .ok (.lstore 4, 2) := by decide +kernel
theorem dX5_columnFor_11 : decode cX5_columnFor 11 = .ok (.lload 4, 2) := by decide +kernel
theorem dX5_columnFor_13 : decode cX5_columnFor 13 = .ok (.lconst 0, 1) := by decide +kernel
theorem dX5_columnFor_14 : decode cX5_columnFor 14 = .ok (.lcmp, 1) := by decide +kernel
theorem dX5_columnFor_15 : decode cX5_columnFor 15 = .ok (.ifCond .ge 5, 3) := by decide +kernel
theorem dX5_columnFor_18 : decode cX5_columnFor 18 = .ok (.iconst (-1), 1) := by decide +kernel
theorem dX5_columnFor_19 : decode cX5_columnFor 19 = .ok (.ireturn, 1) := by decide +kernel
theorem dX5_columnFor_20 : decode cX5_columnFor 20 = .ok (.lload 4, 2) := by decide +kernel
theorem dX5_columnFor_22 : decode cX5_columnFor 22 = .ok (.aload_n 0, 1) := by decide +kernel
theorem dX5_columnFor_23 : decode cX5_columnFor 23 = .ok (.getfield 51, 3) := by decide +kernel
theorem dX5_columnFor_26 : decode cX5_columnFor 26 = .ok (.iload_n 1, 1) := by decide +kernel
theorem dX5_columnFor_27 : decode cX5_columnFor 27 = .ok (.iaload, 1) := by decide +kernel
theorem dX5_columnFor_28 : decode cX5_columnFor 28 = .ok (.i2l, 1) := by decide +kernel
theorem dX5_columnFor_29 : decode cX5_columnFor 29 = .ok (.ldiv, 1) := by decide +kernel
theorem dX5_columnFor_30 : decode cX5_columnFor 30 = .ok (.lstore 6, 2) := by decide +kernel
theorem dX5_columnFor_32 : decode cX5_columnFor 32 = .ok (.lload 4, 2) := by decide +kernel
theorem dX5_columnFor_34 : decode cX5_columnFor 34 = .ok (.aload_n 0, 1) := by decide +kernel
theorem dX5_columnFor_35 : decode cX5_columnFor 35 = .ok (.getfield 51, 3) := by decide +kernel
theorem dX5_columnFor_38 : decode cX5_columnFor 38 = .ok (.iload_n 1, 1) := by decide +kernel
theorem dX5_columnFor_39 : decode cX5_columnFor 39 = .ok (.iaload, 1) := by decide +kernel
theorem dX5_columnFor_40 : decode cX5_columnFor 40 = .ok (.i2l, 1) := by decide +kernel
theorem dX5_columnFor_41 : decode cX5_columnFor 41 = .ok (.lrem, 1) := by decide +kernel
theorem dX5_columnFor_42 : decode cX5_columnFor 42 = .ok (.lconst 0, 1) := by decide +kernel
theorem dX5_columnFor_43 : decode cX5_columnFor 43 = .ok (.lcmp, 1) := by decide +kernel
theorem dX5_columnFor_44 : decode cX5_columnFor 44 = .ok (.ifCond .ne 7, 3) := by decide +kernel
theorem dX5_columnFor_47 : decode cX5_columnFor 47 = .ok (.iconst 1, 1) := by decide +kernel
theorem dX5_columnFor_48 : decode cX5_columnFor 48 = .ok (.goto 4, 3) := by decide +kernel
theorem dX5_columnFor_51 : decode cX5_columnFor 51 = .ok (.iconst 0, 1) := by decide +kernel
theorem dX5_columnFor_52 : decode cX5_columnFor 52 = .ok (.istore 8, 2) := by decide +kernel
theorem dX5_columnFor_54 : decode cX5_columnFor 54 = .ok (.aload_n 0, 1) := by decide +kernel
theorem dX5_columnFor_55 : decode cX5_columnFor 55 = .ok (.getfield 38, 3) := by decide +kernel
theorem dX5_columnFor_58 : decode cX5_columnFor 58 = .ok (.iload_n 1, 1) := by decide +kernel
theorem dX5_columnFor_59 : decode cX5_columnFor 59 = .ok (.iaload, 1) := by decide +kernel
theorem dX5_columnFor_60 : decode cX5_columnFor 60 = .ok (.iconst 1, 1) := by decide +kernel
theorem dX5_columnFor_61 : decode cX5_columnFor 61 = .ok (.isub, 1) := by decide +kernel
theorem dX5_columnFor_62 : decode cX5_columnFor 62 = .ok (.i2l, 1) := by decide +kernel
theorem dX5_columnFor_63 : decode cX5_columnFor 63 = .ok (.lstore 9, 2) := by decide +kernel
theorem dX5_columnFor_65 : decode cX5_columnFor 65 = .ok (.lload 6, 2) := by decide +kernel
theorem dX5_columnFor_67 : decode cX5_columnFor 67 = .ok (.lload 9, 2) := by decide +kernel
theorem dX5_columnFor_69 : decode cX5_columnFor 69 = .ok (.lcmp, 1) := by decide +kernel
theorem dX5_columnFor_70 : decode cX5_columnFor 70 = .ok (.ifCond .le 5, 3) := by decide +kernel
theorem dX5_columnFor_73 : decode cX5_columnFor 73 = .ok (.iconst (-1), 1) := by decide +kernel
theorem dX5_columnFor_74 : decode cX5_columnFor 74 = .ok (.ireturn, 1) := by decide +kernel
theorem dX5_columnFor_75 : decode cX5_columnFor 75 = .ok (.lload 6, 2) := by decide +kernel
theorem dX5_columnFor_77 : decode cX5_columnFor 77 = .ok (.lload 9, 2) := by decide +kernel
theorem dX5_columnFor_79 : decode cX5_columnFor 79 = .ok (.lcmp, 1) := by decide +kernel
theorem dX5_columnFor_80 : decode cX5_columnFor 80 = .ok (.ifCond .lt 8, 3) := by decide +kernel
theorem dX5_columnFor_83 : decode cX5_columnFor 83 = .ok (.iload 8, 2) := by decide +kernel
theorem dX5_columnFor_85 : decode cX5_columnFor 85 = .ok (.ifCond .eq 9, 3) := by decide +kernel
theorem dX5_columnFor_88 : decode cX5_columnFor 88 = .ok (.lload 6, 2) := by decide +kernel
theorem dX5_columnFor_90 : decode cX5_columnFor 90 = .ok (.l2i, 1) := by decide +kernel
theorem dX5_columnFor_91 : decode cX5_columnFor 91 = .ok (.goto 4, 3) := by decide +kernel
theorem dX5_columnFor_94 : decode cX5_columnFor 94 = .ok (.iconst (-1), 1) := by decide +kernel
theorem dX5_columnFor_95 : decode cX5_columnFor 95 = .ok (.ireturn, 1) := by decide +kernel
theorem dX5_join_0 : decode cX5_join 0 = .ok (.iload_n 1, 1) := by decide +kernel
theorem dX5_join_1 : decode cX5_join 1 = .ok (.i2l, 1) := by decide +kernel
theorem dX5_join_2 : decode cX5_join 2 = .ok (.ldc2_w 180, 3) := by decide +kernel
theorem dX5_join_5 : decode cX5_join 5 = .ok (.ldc2_w 171, 3) := by decide +kernel
theorem dX5_join_8 : decode cX5_join 8 = .ok (.invokestatic 75, 3) := by decide +kernel
theorem dX5_join_11 : decode cX5_join 11 = .ok (.ifCond .eq 27, 3) := by decide +kernel
theorem dX5_join_14 : decode cX5_join 14 = .ok (.iload_n 2, 1) := by decide +kernel
theorem dX5_join_15 : decode cX5_join 15 = .ok (.i2l, 1) := by decide +kernel
theorem dX5_join_16 : decode cX5_join 16 = .ok (.lconst 1, 1) := by decide +kernel
theorem dX5_join_17 : decode cX5_join 17 = .ok (.ldc2_w 143, 3) := by decide +kernel
theorem dX5_join_20 : decode cX5_join 20 = .ok (.invokestatic 75, 3) := by decide +kernel
theorem dX5_join_23 : decode cX5_join 23 = .ok (.ifCond .eq 15, 3) := by decide +kernel
theorem dX5_join_26 : decode cX5_join 26 = .ok (.iload_n 3, 1) := by decide +kernel
theorem dX5_join_27 : decode cX5_join 27 = .ok (.i2l, 1) := by decide +kernel
theorem dX5_join_28 : decode cX5_join 28 = .ok (.lconst 1, 1) := by decide +kernel
theorem dX5_join_29 : decode cX5_join 29 = .ok (.ldc2_w 210, 3) := by decide +kernel
theorem dX5_join_32 : decode cX5_join 32 = .ok (.invokestatic 75, 3) := by decide +kernel
theorem dX5_join_35 : decode cX5_join 35 = .ok (.ifCond .ne 6, 3) := by decide +kernel
theorem dX5_join_38 : decode cX5_join 38 = .ok (.bipush (-102), 2) := by decide +kernel
theorem dX5_join_40 : decode cX5_join 40 = .ok (.ireturn, 1) := by decide +kernel
theorem dX5_join_41 : decode cX5_join 41 = .ok (.aload_n 0, 1) := by decide +kernel
theorem dX5_join_42 : decode cX5_join 42 = .ok (.iconst 4, 1) := by decide +kernel
theorem dX5_join_43 : decode cX5_join 43 = .ok (.invokevirtual 212, 3) := by decide +kernel
theorem dX5_join_46 : decode cX5_join 46 = .ok (.ifCond .ne 6, 3) := by decide +kernel
theorem dX5_join_49 : decode cX5_join 49 = .ok (.bipush (-103), 2) := by decide +kernel
theorem dX5_join_51 : decode cX5_join 51 = .ok (.ireturn, 1) := by decide +kernel
theorem dX5_join_52 : decode cX5_join 52 = .ok (.aload_n 0, 1) := by decide +kernel
theorem dX5_join_53 : decode cX5_join 53 = .ok (.iload_n 3, 1) := by decide +kernel
theorem dX5_join_54 : decode cX5_join 54 = .ok (.putfield 215, 3) := by decide +kernel
theorem dX5_join_57 : decode cX5_join 57 = .ok (.iconst 0, 1) := by decide +kernel
theorem dX5_join_58 : decode cX5_join 58 = .ok (.istore 4, 2) := by decide +kernel
theorem dX5_join_60 : decode cX5_join 60 = .ok (.iconst 0, 1) := by decide +kernel
theorem dX5_join_61 : decode cX5_join 61 = .ok (.istore 5, 2) := by decide +kernel
theorem dX5_join_63 : decode cX5_join 63 = .ok (.iload 5, 2) := by decide +kernel
theorem dX5_join_65 : decode cX5_join 65 = .ok (.iload_n 3, 1) := by decide +kernel
theorem dX5_join_66 : decode cX5_join 66 = .ok (.if_icmp .ge 146, 3) := by decide +kernel
theorem dX5_join_69 : decode cX5_join 69 = .ok (.lconst 0, 1) := by decide +kernel
theorem dX5_join_70 : decode cX5_join 70 = .ok (.lstore 6, 2) := by decide +kernel
theorem dX5_join_72 : decode cX5_join 72 = .ok (.lconst 0, 1) := by decide +kernel
theorem dX5_join_73 : decode cX5_join 73 = .ok (.lstore 8, 2) := by decide +kernel
theorem dX5_join_75 : decode cX5_join 75 = .ok (.iconst 0, 1) := by decide +kernel
theorem dX5_join_76 : decode cX5_join 76 = .ok (.istore 10, 2) := by decide +kernel
theorem dX5_join_78 : decode cX5_join 78 = .ok (.iload 10, 2) := by decide +kernel
theorem dX5_join_80 : decode cX5_join 80 = .ok (.aload_n 0, 1) := by decide +kernel
theorem dX5_join_81 : decode cX5_join 81 = .ok (.getfield 79, 3) := by decide +kernel
theorem dX5_join_84 : decode cX5_join 84 = .ok (.if_icmp .ge 82, 3) := by decide +kernel
theorem dX5_join_87 : decode cX5_join 87 = .ok (.aload_n 0, 1) := by decide +kernel
theorem dX5_join_88 : decode cX5_join 88 = .ok (.getfield 45, 3) := by decide +kernel
theorem dX5_join_91 : decode cX5_join 91 = .ok (.iload 10, 2) := by decide +kernel
theorem dX5_join_93 : decode cX5_join 93 = .ok (.baload, 1) := by decide +kernel
theorem dX5_join_94 : decode cX5_join 94 = .ok (.ifCond .eq 21, 3) := by decide +kernel
theorem dX5_join_97 : decode cX5_join 97 = .ok (.aload_n 0, 1) := by decide +kernel
theorem dX5_join_98 : decode cX5_join 98 = .ok (.iload 10, 2) := by decide +kernel
theorem dX5_join_100 : decode cX5_join 100 = .ok (.iload_n 1, 1) := by decide +kernel
theorem dX5_join_101 : decode cX5_join 101 = .ok (.i2l, 1) := by decide +kernel
theorem dX5_join_102 : decode cX5_join 102 = .ok (.iload_n 2, 1) := by decide +kernel
theorem dX5_join_103 : decode cX5_join 103 = .ok (.i2l, 1) := by decide +kernel
theorem dX5_join_104 : decode cX5_join 104 = .ok (.iload 5, 2) := by decide +kernel
theorem dX5_join_106 : decode cX5_join 106 = .ok (.i2l, 1) := by decide +kernel
theorem dX5_join_107 : decode cX5_join 107 = .ok (.lmul, 1) := by decide +kernel
theorem dX5_join_108 : decode cX5_join 108 = .ok (.ladd, 1) := by decide +kernel
theorem dX5_join_109 : decode cX5_join 109 = .ok (.invokevirtual 218, 3) := by decide +kernel
theorem dX5_join_112 : decode cX5_join 112 = .ok (.goto 4, 3) := by decide +kernel
theorem dX5_join_115 : decode cX5_join 115 = .ok (.iconst (-1), 1) := by decide +kernel
theorem dX5_join_116 : decode cX5_join 116 = .ok (.istore 11, 2) := by decide +kernel
theorem dX5_join_118 : decode cX5_join 118 = .ok (.iload 11, 2) := by decide +kernel
theorem dX5_join_120 : decode cX5_join 120 = .ok (.iconst (-1), 1) := by decide +kernel
theorem dX5_join_121 : decode cX5_join 121 = .ok (.if_icmp .eq 39, 3) := by decide +kernel
theorem dX5_join_124 : decode cX5_join 124 = .ok (.aload_n 0, 1) := by decide +kernel
theorem dX5_join_125 : decode cX5_join 125 = .ok (.getfield 41, 3) := by decide +kernel
theorem dX5_join_128 : decode cX5_join 128 = .ok (.bipush 20, 2) := by decide +kernel
theorem dX5_join_130 : decode cX5_join 130 = .ok (.iload 10, 2) := by decide +kernel
theorem dX5_join_132 : decode cX5_join 132 = .ok (.imul, 1) := by decide +kernel
theorem dX5_join_133 : decode cX5_join 133 = .ok (.iload 11, 2) := by decide +kernel
theorem dX5_join_135 : decode cX5_join 135 = .ok (.iadd, 1) := by decide +kernel
theorem dX5_join_136 : decode cX5_join 136 = .ok (.laload, 1) := by decide +kernel
theorem dX5_join_137 : decode cX5_join 137 = .ok (.lstore 12, 2) := by decide +kernel
theorem dX5_join_139 : decode cX5_join 139 = .ok (.lload 6, 2) := by decide +kernel
theorem dX5_join_141 : decode cX5_join 141 = .ok (.lload 12, 2) := by decide +kernel
theorem dX5_join_143 : decode cX5_join 143 = .ok (.lload 12, 2) := by decide +kernel
theorem dX5_join_145 : decode cX5_join 145 = .ok (.lconst 1, 1) := by decide +kernel
theorem dX5_join_146 : decode cX5_join 146 = .ok (.ladd, 1) := by decide +kernel
theorem dX5_join_147 : decode cX5_join 147 = .ok (.lmul, 1) := by decide +kernel
theorem dX5_join_148 : decode cX5_join 148 = .ok (.ladd, 1) := by decide +kernel
theorem dX5_join_149 : decode cX5_join 149 = .ok (.lstore 6, 2) := by decide +kernel
theorem dX5_join_151 : decode cX5_join 151 = .ok (.lload 8, 2) := by decide +kernel
theorem dX5_join_153 : decode cX5_join 153 = .ok (.lload 12, 2) := by decide +kernel
theorem dX5_join_155 : decode cX5_join 155 = .ok (.lconst 1, 1) := by decide +kernel
theorem dX5_join_156 : decode cX5_join 156 = .ok (.ladd, 1) := by decide +kernel
theorem dX5_join_157 : decode cX5_join 157 = .ok (.ladd, 1) := by decide +kernel
theorem dX5_join_158 : decode cX5_join 158 = .ok (.lstore 8, 2) := by decide +kernel
theorem dX5_join_160 : decode cX5_join 160 = .ok (.iinc 10 1, 3) := by decide +kernel
theorem dX5_join_163 : decode cX5_join 163 = .ok (.goto (-85), 3) := by decide +kernel
theorem dX5_join_166 : decode cX5_join 166 = .ok (.aload_n 0, 1) := by decide +kernel
theorem dX5_join_167 : decode cX5_join 167 = .ok (.getfield 60, 3) := by decide +kernel
theorem dX5_join_170 : decode cX5_join 170 = .ok (.iload 5, 2) := by decide +kernel
theorem dX5_join_172 : decode cX5_join 172 = .ok (.lload 8, 2) := by decide +kernel
theorem dX5_join_174 : decode cX5_join 174 = .ok (.lconst 0, 1) := by decide +kernel
theorem dX5_join_175 : decode cX5_join 175 = .ok (.lcmp, 1) := by decide +kernel
theorem dX5_join_176 : decode cX5_join 176 = .ok (.ifCond .ne 7, 3) := by decide +kernel
theorem dX5_join_179 : decode cX5_join 179 = .ok (.lconst 0, 1) := by decide +kernel
theorem dX5_join_180 : decode cX5_join 180 = .ok (.goto 8, 3) := by decide +kernel
theorem dX5_join_183 : decode cX5_join 183 = .ok (.lload 6, 2) := by decide +kernel
theorem dX5_join_185 : decode cX5_join 185 = .ok (.lload 8, 2) := by decide +kernel
theorem dX5_join_187 : decode cX5_join 187 = .ok (.ldiv, 1) := by decide +kernel
theorem dX5_join_188 : decode cX5_join 188 = .ok (.lastore, 1) := by decide +kernel
theorem dX5_join_189 : decode cX5_join 189 = .ok (.iload 4, 2) := by decide +kernel
theorem dX5_join_191 : decode cX5_join 191 = .ok (.lload 8, 2) := by decide +kernel
theorem dX5_join_193 : decode cX5_join 193 = .ok (.lconst 0, 1) := by decide +kernel
theorem dX5_join_194 : decode cX5_join 194 = .ok (.lcmp, 1) := by decide +kernel
theorem dX5_join_195 : decode cX5_join 195 = .ok (.ifCond .ne 7, 3) := by decide +kernel
theorem dX5_join_198 : decode cX5_join 198 = .ok (.iconst 0, 1) := by decide +kernel
theorem dX5_join_199 : decode cX5_join 199 = .ok (.goto 4, 3) := by decide +kernel
theorem dX5_join_202 : decode cX5_join 202 = .ok (.iconst 1, 1) := by decide +kernel
theorem dX5_join_203 : decode cX5_join 203 = .ok (.iadd, 1) := by decide +kernel
theorem dX5_join_204 : decode cX5_join 204 = .ok (.istore 4, 2) := by decide +kernel
theorem dX5_join_206 : decode cX5_join 206 = .ok (.iinc 5 1, 3) := by decide +kernel
theorem dX5_join_209 : decode cX5_join 209 = .ok (.goto (-146), 3) := by decide +kernel
theorem dX5_join_212 : decode cX5_join 212 = .ok (.iload 4, 2) := by decide +kernel
theorem dX5_join_214 : decode cX5_join 214 = .ok (.ireturn, 1) := by decide +kernel
theorem dX5_joined_0 : decode cX5_joined 0 = .ok (.iload_n 1, 1) := by decide +kernel
theorem dX5_joined_1 : decode cX5_joined 1 = .ok (.i2l, 1) := by decide +kernel
theorem dX5_joined_2 : decode cX5_joined 2 = .ok (.lconst 0, 1) := by decide +kernel
theorem dX5_joined_3 : decode cX5_joined 3 = .ok (.aload_n 0, 1) := by decide +kernel
theorem dX5_joined_4 : decode cX5_joined 4 = .ok (.getfield 215, 3) := by decide +kernel
theorem dX5_joined_7 : decode cX5_joined 7 = .ok (.iconst 1, 1) := by decide +kernel
theorem dX5_joined_8 : decode cX5_joined 8 = .ok (.isub, 1) := by decide +kernel
theorem dX5_joined_9 : decode cX5_joined 9 = .ok (.i2l, 1) := by decide +kernel
theorem dX5_joined_10 : decode cX5_joined 10 = .ok (.invokestatic 75, 3) := by decide +kernel
theorem dX5_joined_13 : decode cX5_joined 13 = .ok (.ifCond .eq 12, 3) := by decide +kernel
theorem dX5_joined_16 : decode cX5_joined 16 = .ok (.aload_n 0, 1) := by decide +kernel
theorem dX5_joined_17 : decode cX5_joined 17 = .ok (.getfield 60, 3) := by decide +kernel
theorem dX5_joined_20 : decode cX5_joined 20 = .ok (.iload_n 1, 1) := by decide +kernel
theorem dX5_joined_21 : decode cX5_joined 21 = .ok (.laload, 1) := by decide +kernel
theorem dX5_joined_22 : decode cX5_joined 22 = .ok (.goto 6, 3) := by decide +kernel
theorem dX5_joined_25 : decode cX5_joined 25 = .ok (.ldc2_w 160, 3) := by decide +kernel
theorem dX5_joined_28 : decode cX5_joined 28 = .ok (.lreturn, 1) := by decide +kernel
theorem dX5_shiftOf_0 : decode cX5_shiftOf 0 = .ok (.lconst 0, 1) := by decide +kernel
theorem dX5_shiftOf_1 : decode cX5_shiftOf 1 = .ok (.lstore 4, 2) := by decide +kernel
theorem dX5_shiftOf_3 : decode cX5_shiftOf 3 = .ok (.iconst 0, 1) := by decide +kernel
theorem dX5_shiftOf_4 : decode cX5_shiftOf 4 = .ok (.istore 6, 2) := by decide +kernel
theorem dX5_shiftOf_6 : decode cX5_shiftOf 6 = .ok (.iload 6, 2) := by decide +kernel
theorem dX5_shiftOf_8 : decode cX5_shiftOf 8 = .ok (.aload_n 0, 1) := by decide +kernel
theorem dX5_shiftOf_9 : decode cX5_shiftOf 9 = .ok (.getfield 38, 3) := by decide +kernel
theorem dX5_shiftOf_12 : decode cX5_shiftOf 12 = .ok (.iload_n 1, 1) := by decide +kernel
theorem dX5_shiftOf_13 : decode cX5_shiftOf 13 = .ok (.iaload, 1) := by decide +kernel
theorem dX5_shiftOf_14 : decode cX5_shiftOf 14 = .ok (.if_icmp .ge 62, 3) := by decide +kernel
theorem dX5_shiftOf_17 : decode cX5_shiftOf 17 = .ok (.iload 6, 2) := by decide +kernel
theorem dX5_shiftOf_19 : decode cX5_shiftOf 19 = .ok (.iload_n 3, 1) := by decide +kernel
theorem dX5_shiftOf_20 : decode cX5_shiftOf 20 = .ok (.iadd, 1) := by decide +kernel
theorem dX5_shiftOf_21 : decode cX5_shiftOf 21 = .ok (.i2l, 1) := by decide +kernel
theorem dX5_shiftOf_22 : decode cX5_shiftOf 22 = .ok (.lconst 0, 1) := by decide +kernel
theorem dX5_shiftOf_23 : decode cX5_shiftOf 23 = .ok (.aload_n 0, 1) := by decide +kernel
theorem dX5_shiftOf_24 : decode cX5_shiftOf 24 = .ok (.getfield 38, 3) := by decide +kernel
theorem dX5_shiftOf_27 : decode cX5_shiftOf 27 = .ok (.iload_n 2, 1) := by decide +kernel
theorem dX5_shiftOf_28 : decode cX5_shiftOf 28 = .ok (.iaload, 1) := by decide +kernel
theorem dX5_shiftOf_29 : decode cX5_shiftOf 29 = .ok (.iconst 1, 1) := by decide +kernel
theorem dX5_shiftOf_30 : decode cX5_shiftOf 30 = .ok (.isub, 1) := by decide +kernel
theorem dX5_shiftOf_31 : decode cX5_shiftOf 31 = .ok (.i2l, 1) := by decide +kernel
theorem dX5_shiftOf_32 : decode cX5_shiftOf 32 = .ok (.invokestatic 75, 3) := by decide +kernel
theorem dX5_shiftOf_35 : decode cX5_shiftOf 35 = .ok (.ifCond .eq 35, 3) := by decide +kernel
theorem dX5_shiftOf_38 : decode cX5_shiftOf 38 = .ok (.lload 4, 2) := by decide +kernel
theorem dX5_shiftOf_40 : decode cX5_shiftOf 40 = .ok (.aload_n 0, 1) := by decide +kernel
theorem dX5_shiftOf_41 : decode cX5_shiftOf 41 = .ok (.getfield 41, 3) := by decide +kernel
theorem dX5_shiftOf_44 : decode cX5_shiftOf 44 = .ok (.bipush 20, 2) := by decide +kernel
theorem dX5_shiftOf_46 : decode cX5_shiftOf 46 = .ok (.iload_n 1, 1) := by decide +kernel
theorem dX5_shiftOf_47 : decode cX5_shiftOf 47 = .ok (.imul, 1) := by decide +kernel
theorem dX5_shiftOf_48 : decode cX5_shiftOf 48 = .ok (.iload 6, 2) := by decide +kernel
theorem dX5_shiftOf_50 : decode cX5_shiftOf 50 = .ok (.iadd, 1) := by decide +kernel
theorem dX5_shiftOf_51 : decode cX5_shiftOf 51 = .ok (.laload, 1) := by decide +kernel
theorem dX5_shiftOf_52 : decode cX5_shiftOf 52 = .ok (.aload_n 0, 1) := by decide +kernel
theorem dX5_shiftOf_53 : decode cX5_shiftOf 53 = .ok (.getfield 41, 3) := by decide +kernel
theorem dX5_shiftOf_56 : decode cX5_shiftOf 56 = .ok (.bipush 20, 2) := by decide +kernel
theorem dX5_shiftOf_58 : decode cX5_shiftOf 58 = .ok (.iload_n 2, 1) := by decide +kernel
theorem dX5_shiftOf_59 : decode cX5_shiftOf 59 = .ok (.imul, 1) := by decide +kernel
theorem dX5_shiftOf_60 : decode cX5_shiftOf 60 = .ok (.iload 6, 2) := by decide +kernel
theorem dX5_shiftOf_62 : decode cX5_shiftOf 62 = .ok (.iadd, 1) := by decide +kernel
theorem dX5_shiftOf_63 : decode cX5_shiftOf 63 = .ok (.iload_n 3, 1) := by decide +kernel
theorem dX5_shiftOf_64 : decode cX5_shiftOf 64 = .ok (.iadd, 1) := by decide +kernel
theorem dX5_shiftOf_65 : decode cX5_shiftOf 65 = .ok (.laload, 1) := by decide +kernel
theorem dX5_shiftOf_66 : decode cX5_shiftOf 66 = .ok (.lmul, 1) := by decide +kernel
theorem dX5_shiftOf_67 : decode cX5_shiftOf 67 = .ok (.ladd, 1) := by decide +kernel
theorem dX5_shiftOf_68 : decode cX5_shiftOf 68 = .ok (.lstore 4, 2) := by decide +kernel
theorem dX5_shiftOf_70 : decode cX5_shiftOf 70 = .ok (.iinc 6 1, 3) := by decide +kernel
theorem dX5_shiftOf_73 : decode cX5_shiftOf 73 = .ok (.goto (-67), 3) := by decide +kernel
theorem dX5_shiftOf_76 : decode cX5_shiftOf 76 = .ok (.lload 4, 2) := by decide +kernel
theorem dX5_shiftOf_78 : decode cX5_shiftOf 78 = .ok (.lreturn, 1) := by decide +kernel
theorem dX5_shift_0 : decode cX5_shift 0 = .ok (.aload_n 0, 1) := by decide +kernel
theorem dX5_shift_1 : decode cX5_shift 1 = .ok (.iload_n 1, 1) := by decide +kernel
theorem dX5_shift_2 : decode cX5_shift 2 = .ok (.invokevirtual 117, 3) := by decide +kernel
theorem dX5_shift_5 : decode cX5_shift 5 = .ok (.ifCond .eq 11, 3) := by decide +kernel
theorem dX5_shift_8 : decode cX5_shift 8 = .ok (.aload_n 0, 1) := by decide +kernel
theorem dX5_shift_9 : decode cX5_shift 9 = .ok (.iload_n 2, 1) := by decide +kernel
theorem dX5_shift_10 : decode cX5_shift 10 = .ok (.invokevirtual 117, 3) := by decide +kernel
theorem dX5_shift_13 : decode cX5_shift 13 = .ok (.ifCond .ne 7, 3) := by decide +kernel
theorem dX5_shift_16 : decode cX5_shift 16 = .ok (.ldc2_w 158, 3) := by decide +kernel
theorem dX5_shift_19 : decode cX5_shift 19 = .ok (.lreturn, 1) := by decide +kernel
theorem dX5_shift_20 : decode cX5_shift 20 = .ok (.iload_n 3, 1) := by decide +kernel
theorem dX5_shift_21 : decode cX5_shift 21 = .ok (.i2l, 1) := by decide +kernel
theorem dX5_shift_22 : decode cX5_shift 22 = .ok (.ldc2_w 222, 3) := by decide +kernel
theorem dX5_shift_25 : decode cX5_shift 25 = .ok (.ldc2_w 108, 3) := by decide +kernel
theorem dX5_shift_28 : decode cX5_shift 28 = .ok (.invokestatic 75, 3) := by decide +kernel
theorem dX5_shift_31 : decode cX5_shift 31 = .ok (.ifCond .eq 13, 3) := by decide +kernel
theorem dX5_shift_34 : decode cX5_shift 34 = .ok (.aload_n 0, 1) := by decide +kernel
theorem dX5_shift_35 : decode cX5_shift 35 = .ok (.iload_n 1, 1) := by decide +kernel
theorem dX5_shift_36 : decode cX5_shift 36 = .ok (.iload_n 2, 1) := by decide +kernel
theorem dX5_shift_37 : decode cX5_shift 37 = .ok (.iload_n 3, 1) := by decide +kernel
theorem dX5_shift_38 : decode cX5_shift 38 = .ok (.invokevirtual 224, 3) := by decide +kernel
theorem dX5_shift_41 : decode cX5_shift 41 = .ok (.goto 6, 3) := by decide +kernel
theorem dX5_shift_44 : decode cX5_shift 44 = .ok (.ldc2_w 228, 3) := by decide +kernel
theorem dX5_shift_47 : decode cX5_shift 47 = .ok (.lreturn, 1) := by decide +kernel
theorem dX5_best_0 : decode cX5_best 0 = .ok (.aload_n 0, 1) := by decide +kernel
theorem dX5_best_1 : decode cX5_best 1 = .ok (.iload_n 1, 1) := by decide +kernel
theorem dX5_best_2 : decode cX5_best 2 = .ok (.invokevirtual 117, 3) := by decide +kernel
theorem dX5_best_5 : decode cX5_best 5 = .ok (.ifCond .eq 11, 3) := by decide +kernel
theorem dX5_best_8 : decode cX5_best 8 = .ok (.aload_n 0, 1) := by decide +kernel
theorem dX5_best_9 : decode cX5_best 9 = .ok (.iload_n 2, 1) := by decide +kernel
theorem dX5_best_10 : decode cX5_best 10 = .ok (.invokevirtual 117, 3) := by decide +kernel
theorem dX5_best_13 : decode cX5_best 13 = .ok (.ifCond .ne 6, 3) := by decide +kernel
theorem dX5_best_16 : decode cX5_best 16 = .ok (.bipush (-100), 2) := by decide +kernel
theorem dX5_best_18 : decode cX5_best 18 = .ok (.ireturn, 1) := by decide +kernel
theorem dX5_best_19 : decode cX5_best 19 = .ok (.aload_n 0, 1) := by decide +kernel
theorem dX5_best_20 : decode cX5_best 20 = .ok (.getfield 38, 3) := by decide +kernel
theorem dX5_best_23 : decode cX5_best 23 = .ok (.iload_n 1, 1) := by decide +kernel
theorem dX5_best_24 : decode cX5_best 24 = .ok (.iaload, 1) := by decide +kernel
theorem dX5_best_25 : decode cX5_best 25 = .ok (.ifCond .eq 12, 3) := by decide +kernel
theorem dX5_best_28 : decode cX5_best 28 = .ok (.aload_n 0, 1) := by decide +kernel
theorem dX5_best_29 : decode cX5_best 29 = .ok (.getfield 38, 3) := by decide +kernel
theorem dX5_best_32 : decode cX5_best 32 = .ok (.iload_n 2, 1) := by decide +kernel
theorem dX5_best_33 : decode cX5_best 33 = .ok (.iaload, 1) := by decide +kernel
theorem dX5_best_34 : decode cX5_best 34 = .ok (.ifCond .ne 6, 3) := by decide +kernel
theorem dX5_best_37 : decode cX5_best 37 = .ok (.bipush (-101), 2) := by decide +kernel
theorem dX5_best_39 : decode cX5_best 39 = .ok (.ireturn, 1) := by decide +kernel
theorem dX5_best_40 : decode cX5_best 40 = .ok (.iconst 0, 1) := by decide +kernel
theorem dX5_best_41 : decode cX5_best 41 = .ok (.istore_n 3, 1) := by decide +kernel
theorem dX5_best_42 : decode cX5_best 42 = .ok (.aload_n 0, 1) := by decide +kernel
theorem dX5_best_43 : decode cX5_best 43 = .ok (.iload_n 1, 1) := by decide +kernel
theorem dX5_best_44 : decode cX5_best 44 = .ok (.iload_n 2, 1) := by decide +kernel
theorem dX5_best_45 : decode cX5_best 45 = .ok (.iconst 0, 1) := by decide +kernel
theorem dX5_best_46 : decode cX5_best 46 = .ok (.invokevirtual 224, 3) := by decide +kernel
theorem dX5_best_49 : decode cX5_best 49 = .ok (.lstore 4, 2) := by decide +kernel
theorem dX5_best_51 : decode cX5_best 51 = .ok (.iconst 1, 1) := by decide +kernel
theorem dX5_best_52 : decode cX5_best 52 = .ok (.istore 6, 2) := by decide +kernel
theorem dX5_best_54 : decode cX5_best 54 = .ok (.iload 6, 2) := by decide +kernel
theorem dX5_best_56 : decode cX5_best 56 = .ok (.bipush 8, 2) := by decide +kernel
theorem dX5_best_58 : decode cX5_best 58 = .ok (.if_icmp .gt 55, 3) := by decide +kernel
theorem dX5_best_61 : decode cX5_best 61 = .ok (.iconst (-1), 1) := by decide +kernel
theorem dX5_best_62 : decode cX5_best 62 = .ok (.istore 7, 2) := by decide +kernel
theorem dX5_best_64 : decode cX5_best 64 = .ok (.iload 7, 2) := by decide +kernel
theorem dX5_best_66 : decode cX5_best 66 = .ok (.iconst 1, 1) := by decide +kernel
theorem dX5_best_67 : decode cX5_best 67 = .ok (.if_icmp .gt 40, 3) := by decide +kernel
theorem dX5_best_70 : decode cX5_best 70 = .ok (.aload_n 0, 1) := by decide +kernel
theorem dX5_best_71 : decode cX5_best 71 = .ok (.iload_n 1, 1) := by decide +kernel
theorem dX5_best_72 : decode cX5_best 72 = .ok (.iload_n 2, 1) := by decide +kernel
theorem dX5_best_73 : decode cX5_best 73 = .ok (.iload 7, 2) := by decide +kernel
theorem dX5_best_75 : decode cX5_best 75 = .ok (.iload 6, 2) := by decide +kernel
theorem dX5_best_77 : decode cX5_best 77 = .ok (.imul, 1) := by decide +kernel
theorem dX5_best_78 : decode cX5_best 78 = .ok (.invokevirtual 224, 3) := by decide +kernel
theorem dX5_best_81 : decode cX5_best 81 = .ok (.lstore 8, 2) := by decide +kernel
theorem dX5_best_83 : decode cX5_best 83 = .ok (.lload 8, 2) := by decide +kernel
theorem dX5_best_85 : decode cX5_best 85 = .ok (.lload 4, 2) := by decide +kernel
theorem dX5_best_87 : decode cX5_best 87 = .ok (.lcmp, 1) := by decide +kernel
theorem dX5_best_88 : decode cX5_best 88 = .ok (.ifCond .le 13, 3) := by decide +kernel
theorem dX5_best_91 : decode cX5_best 91 = .ok (.lload 8, 2) := by decide +kernel
theorem dX5_best_93 : decode cX5_best 93 = .ok (.lstore 4, 2) := by decide +kernel
theorem dX5_best_95 : decode cX5_best 95 = .ok (.iload 7, 2) := by decide +kernel
theorem dX5_best_97 : decode cX5_best 97 = .ok (.iload 6, 2) := by decide +kernel
theorem dX5_best_99 : decode cX5_best 99 = .ok (.imul, 1) := by decide +kernel
theorem dX5_best_100 : decode cX5_best 100 = .ok (.istore_n 3, 1) := by decide +kernel
theorem dX5_best_101 : decode cX5_best 101 = .ok (.iinc 7 2, 3) := by decide +kernel
theorem dX5_best_104 : decode cX5_best 104 = .ok (.goto (-40), 3) := by decide +kernel
theorem dX5_best_107 : decode cX5_best 107 = .ok (.iinc 6 1, 3) := by decide +kernel
theorem dX5_best_110 : decode cX5_best 110 = .ok (.goto (-56), 3) := by decide +kernel
theorem dX5_best_113 : decode cX5_best 113 = .ok (.iload_n 3, 1) := by decide +kernel
theorem dX5_best_114 : decode cX5_best 114 = .ok (.ireturn, 1) := by decide +kernel
theorem dX5_seen_0 : decode cX5_seen 0 = .ok (.aload_n 0, 1) := by decide +kernel
theorem dX5_seen_1 : decode cX5_seen 1 = .ok (.getfield 110, 3) := by decide +kernel
theorem dX5_seen_4 : decode cX5_seen 4 = .ok (.ireturn, 1) := by decide +kernel
theorem dX5_cause_0 : decode cX5_cause 0 = .ok (.aload_n 0, 1) := by decide +kernel
theorem dX5_cause_1 : decode cX5_cause 1 = .ok (.getfield 69, 3) := by decide +kernel
theorem dX5_cause_4 : decode cX5_cause 4 = .ok (.ireturn, 1) := by decide +kernel
theorem dX5_causes_0 : decode cX5_causes 0 = .ok (.iload_n 1, 1) := by decide +kernel
theorem dX5_causes_1 : decode cX5_causes 1 = .ok (.i2l, 1) := by decide +kernel
theorem dX5_causes_2 : decode cX5_causes 2 = .ok (.lconst 1, 1) := by decide +kernel
theorem dX5_causes_3 : decode cX5_causes 3 = .ok (.ldc2_w 73, 3) := by decide +kernel
theorem dX5_causes_6 : decode cX5_causes 6 = .ok (.invokestatic 75, 3) := by decide +kernel
theorem dX5_causes_9 : decode cX5_causes 9 = .ok (.ifCond .eq 12, 3) := by decide +kernel
theorem dX5_causes_12 : decode cX5_causes 12 = .ok (.aload_n 0, 1) := by decide +kernel
theorem dX5_causes_13 : decode cX5_causes 13 = .ok (.getfield 63, 3) := by decide +kernel
theorem dX5_causes_16 : decode cX5_causes 16 = .ok (.iload_n 1, 1) := by decide +kernel
theorem dX5_causes_17 : decode cX5_causes 17 = .ok (.iaload, 1) := by decide +kernel
theorem dX5_causes_18 : decode cX5_causes 18 = .ok (.goto 5, 3) := by decide +kernel
theorem dX5_causes_21 : decode cX5_causes 21 = .ok (.bipush (-102), 2) := by decide +kernel
theorem dX5_causes_23 : decode cX5_causes 23 = .ok (.ireturn, 1) := by decide +kernel
theorem dX5_count_0 : decode cX5_count 0 = .ok (.iconst 0, 1) := by decide +kernel
theorem dX5_count_1 : decode cX5_count 1 = .ok (.istore_n 2, 1) := by decide +kernel
theorem dX5_count_2 : decode cX5_count 2 = .ok (.iload_n 1, 1) := by decide +kernel
theorem dX5_count_3 : decode cX5_count 3 = .ok (.tableswitch 154 0 5 #[37, 70, 75, 80, 114, 149], 37) := by decide +kernel
theorem dX5_count_40 : decode cX5_count 40 = .ok (.iconst 0, 1) := by decide +kernel
theorem dX5_count_41 : decode cX5_count 41 = .ok (.istore_n 3, 1) := by decide +kernel
theorem dX5_count_42 : decode cX5_count 42 = .ok (.iload_n 3, 1) := by decide +kernel
theorem dX5_count_43 : decode cX5_count 43 = .ok (.bipush 6, 2) := by decide +kernel
theorem dX5_count_45 : decode cX5_count 45 = .ok (.if_icmp .ge 26, 3) := by decide +kernel
theorem dX5_count_48 : decode cX5_count 48 = .ok (.iload_n 2, 1) := by decide +kernel
theorem dX5_count_49 : decode cX5_count 49 = .ok (.aload_n 0, 1) := by decide +kernel
theorem dX5_count_50 : decode cX5_count 50 = .ok (.getfield 7, 3) := by decide +kernel
theorem dX5_count_53 : decode cX5_count 53 = .ok (.iload_n 3, 1) := by decide +kernel
theorem dX5_count_54 : decode cX5_count 54 = .ok (.baload, 1) := by decide +kernel
theorem dX5_count_55 : decode cX5_count 55 = .ok (.ifCond .eq 7, 3) := by decide +kernel
theorem dX5_count_58 : decode cX5_count 58 = .ok (.iconst 1, 1) := by decide +kernel
theorem dX5_count_59 : decode cX5_count 59 = .ok (.goto 4, 3) := by decide +kernel
theorem dX5_count_62 : decode cX5_count 62 = .ok (.iconst 0, 1) := by decide +kernel
theorem dX5_count_63 : decode cX5_count 63 = .ok (.iadd, 1) := by decide +kernel
theorem dX5_count_64 : decode cX5_count 64 = .ok (.istore_n 2, 1) := by decide +kernel
theorem dX5_count_65 : decode cX5_count 65 = .ok (.iinc 3 1, 3) := by decide +kernel
theorem dX5_count_68 : decode cX5_count 68 = .ok (.goto (-26), 3) := by decide +kernel
theorem dX5_count_71 : decode cX5_count 71 = .ok (.iload_n 2, 1) := by decide +kernel
theorem dX5_count_72 : decode cX5_count 72 = .ok (.ireturn, 1) := by decide +kernel
theorem dX5_count_73 : decode cX5_count 73 = .ok (.aload_n 0, 1) := by decide +kernel
theorem dX5_count_74 : decode cX5_count 74 = .ok (.getfield 79, 3) := by decide +kernel
theorem dX5_count_77 : decode cX5_count 77 = .ok (.ireturn, 1) := by decide +kernel
theorem dX5_count_78 : decode cX5_count 78 = .ok (.aload_n 0, 1) := by decide +kernel
theorem dX5_count_79 : decode cX5_count 79 = .ok (.getfield 173, 3) := by decide +kernel
theorem dX5_count_82 : decode cX5_count 82 = .ok (.ireturn, 1) := by decide +kernel
theorem dX5_count_83 : decode cX5_count 83 = .ok (.iconst 0, 1) := by decide +kernel
theorem dX5_count_84 : decode cX5_count 84 = .ok (.istore_n 3, 1) := by decide +kernel
theorem dX5_count_85 : decode cX5_count 85 = .ok (.iload_n 3, 1) := by decide +kernel
theorem dX5_count_86 : decode cX5_count 86 = .ok (.sipush 400, 3) := by decide +kernel
theorem dX5_count_89 : decode cX5_count 89 = .ok (.if_icmp .ge 26, 3) := by decide +kernel
theorem dX5_count_92 : decode cX5_count 92 = .ok (.iload_n 2, 1) := by decide +kernel
theorem dX5_count_93 : decode cX5_count 93 = .ok (.aload_n 0, 1) := by decide +kernel
theorem dX5_count_94 : decode cX5_count 94 = .ok (.getfield 26, 3) := by decide +kernel
theorem dX5_count_97 : decode cX5_count 97 = .ok (.iload_n 3, 1) := by decide +kernel
theorem dX5_count_98 : decode cX5_count 98 = .ok (.baload, 1) := by decide +kernel
theorem dX5_count_99 : decode cX5_count 99 = .ok (.ifCond .eq 7, 3) := by decide +kernel
theorem dX5_count_102 : decode cX5_count 102 = .ok (.iconst 1, 1) := by decide +kernel
theorem dX5_count_103 : decode cX5_count 103 = .ok (.goto 4, 3) := by decide +kernel
theorem dX5_count_106 : decode cX5_count 106 = .ok (.iconst 0, 1) := by decide +kernel
theorem dX5_count_107 : decode cX5_count 107 = .ok (.iadd, 1) := by decide +kernel
theorem dX5_count_108 : decode cX5_count 108 = .ok (.istore_n 2, 1) := by decide +kernel
theorem dX5_count_109 : decode cX5_count 109 = .ok (.iinc 3 1, 3) := by decide +kernel
theorem dX5_count_112 : decode cX5_count 112 = .ok (.goto (-27), 3) := by decide +kernel
theorem dX5_count_115 : decode cX5_count 115 = .ok (.iload_n 2, 1) := by decide +kernel
theorem dX5_count_116 : decode cX5_count 116 = .ok (.ireturn, 1) := by decide +kernel
theorem dX5_count_117 : decode cX5_count 117 = .ok (.iconst 0, 1) := by decide +kernel
theorem dX5_count_118 : decode cX5_count 118 = .ok (.istore_n 3, 1) := by decide +kernel
theorem dX5_count_119 : decode cX5_count 119 = .ok (.iload_n 3, 1) := by decide +kernel
theorem dX5_count_120 : decode cX5_count 120 = .ok (.aload_n 0, 1) := by decide +kernel
theorem dX5_count_121 : decode cX5_count 121 = .ok (.getfield 79, 3) := by decide +kernel
theorem dX5_count_124 : decode cX5_count 124 = .ok (.if_icmp .ge 26, 3) := by decide +kernel
theorem dX5_count_127 : decode cX5_count 127 = .ok (.iload_n 2, 1) := by decide +kernel
theorem dX5_count_128 : decode cX5_count 128 = .ok (.aload_n 0, 1) := by decide +kernel
theorem dX5_count_129 : decode cX5_count 129 = .ok (.getfield 45, 3) := by decide +kernel
theorem dX5_count_132 : decode cX5_count 132 = .ok (.iload_n 3, 1) := by decide +kernel
theorem dX5_count_133 : decode cX5_count 133 = .ok (.baload, 1) := by decide +kernel
theorem dX5_count_134 : decode cX5_count 134 = .ok (.ifCond .eq 7, 3) := by decide +kernel
theorem dX5_count_137 : decode cX5_count 137 = .ok (.iconst 1, 1) := by decide +kernel
theorem dX5_count_138 : decode cX5_count 138 = .ok (.goto 4, 3) := by decide +kernel
theorem dX5_count_141 : decode cX5_count 141 = .ok (.iconst 0, 1) := by decide +kernel
theorem dX5_count_142 : decode cX5_count 142 = .ok (.iadd, 1) := by decide +kernel
theorem dX5_count_143 : decode cX5_count 143 = .ok (.istore_n 2, 1) := by decide +kernel
theorem dX5_count_144 : decode cX5_count 144 = .ok (.iinc 3 1, 3) := by decide +kernel
theorem dX5_count_147 : decode cX5_count 147 = .ok (.goto (-28), 3) := by decide +kernel
theorem dX5_count_150 : decode cX5_count 150 = .ok (.iload_n 2, 1) := by decide +kernel
theorem dX5_count_151 : decode cX5_count 151 = .ok (.ireturn, 1) := by decide +kernel
theorem dX5_count_152 : decode cX5_count 152 = .ok (.aload_n 0, 1) := by decide +kernel
theorem dX5_count_153 : decode cX5_count 153 = .ok (.getfield 198, 3) := by decide +kernel
theorem dX5_count_156 : decode cX5_count 156 = .ok (.ireturn, 1) := by decide +kernel
theorem dX5_count_157 : decode cX5_count 157 = .ok (.bipush (-102), 2) := by decide +kernel
theorem dX5_count_159 : decode cX5_count 159 = .ok (.ireturn, 1) := by decide +kernel
theorem dX5_mix_0 : decode cX5_mix 0 = .ok (.aload_n 0, 1) := by decide +kernel
theorem dX5_mix_1 : decode cX5_mix 1 = .ok (.ldc2_w 230, 3) := by decide +kernel
theorem dX5_mix_4 : decode cX5_mix 4 = .ok (.aload_n 0, 1) := by decide +kernel
theorem dX5_mix_5 : decode cX5_mix 5 = .ok (.getfield 232, 3) := by decide +kernel
theorem dX5_mix_8 : decode cX5_mix 8 = .ok (.lmul, 1) := by decide +kernel
theorem dX5_mix_9 : decode cX5_mix 9 = .ok (.lload_n 1, 1) := by decide +kernel
theorem dX5_mix_10 : decode cX5_mix 10 = .ok (.ladd, 1) := by decide +kernel
theorem dX5_mix_11 : decode cX5_mix 11 = .ok (.putfield 232, 3) := by decide +kernel
theorem dX5_mix_14 : decode cX5_mix 14 = .ok (.return_, 1) := by decide +kernel
theorem dX5_digest_0 : decode cX5_digest 0 = .ok (.aload_n 0, 1) := by decide +kernel
theorem dX5_digest_1 : decode cX5_digest 1 = .ok (.ldc2_w 235, 3) := by decide +kernel
theorem dX5_digest_4 : decode cX5_digest 4 = .ok (.putfield 232, 3) := by decide +kernel
theorem dX5_digest_7 : decode cX5_digest 7 = .ok (.iconst 0, 1) := by decide +kernel
theorem dX5_digest_8 : decode cX5_digest 8 = .ok (.istore_n 1, 1) := by decide +kernel
theorem dX5_digest_9 : decode cX5_digest 9 = .ok (.iload_n 1, 1) := by decide +kernel
theorem dX5_digest_10 : decode cX5_digest 10 = .ok (.bipush 6, 2) := by decide +kernel
theorem dX5_digest_12 : decode cX5_digest 12 = .ok (.if_icmp .ge 113, 3) := by decide +kernel
theorem dX5_digest_15 : decode cX5_digest 15 = .ok (.aload_n 0, 1) := by decide +kernel
theorem dX5_digest_16 : decode cX5_digest 16 = .ok (.getfield 7, 3) := by decide +kernel
theorem dX5_digest_19 : decode cX5_digest 19 = .ok (.iload_n 1, 1) := by decide +kernel
theorem dX5_digest_20 : decode cX5_digest 20 = .ok (.baload, 1) := by decide +kernel
theorem dX5_digest_21 : decode cX5_digest 21 = .ok (.ifCond .ne 13, 3) := by decide +kernel
theorem dX5_digest_24 : decode cX5_digest 24 = .ok (.aload_n 0, 1) := by decide +kernel
theorem dX5_digest_25 : decode cX5_digest 25 = .ok (.ldc2_w 160, 3) := by decide +kernel
theorem dX5_digest_28 : decode cX5_digest 28 = .ok (.invokevirtual 237, 3) := by decide +kernel
theorem dX5_digest_31 : decode cX5_digest 31 = .ok (.goto 88, 3) := by decide +kernel
theorem dX5_digest_34 : decode cX5_digest 34 = .ok (.aload_n 0, 1) := by decide +kernel
theorem dX5_digest_35 : decode cX5_digest 35 = .ok (.aload_n 0, 1) := by decide +kernel
theorem dX5_digest_36 : decode cX5_digest 36 = .ok (.getfield 13, 3) := by decide +kernel
theorem dX5_digest_39 : decode cX5_digest 39 = .ok (.iload_n 1, 1) := by decide +kernel
theorem dX5_digest_40 : decode cX5_digest 40 = .ok (.iaload, 1) := by decide +kernel
theorem dX5_digest_41 : decode cX5_digest 41 = .ok (.i2l, 1) := by decide +kernel
theorem dX5_digest_42 : decode cX5_digest 42 = .ok (.invokevirtual 237, 3) := by decide +kernel
theorem dX5_digest_45 : decode cX5_digest 45 = .ok (.aload_n 0, 1) := by decide +kernel
theorem dX5_digest_46 : decode cX5_digest 46 = .ok (.aload_n 0, 1) := by decide +kernel
theorem dX5_digest_47 : decode cX5_digest 47 = .ok (.getfield 17, 3) := by decide +kernel
theorem dX5_digest_50 : decode cX5_digest 50 = .ok (.iload_n 1, 1) := by decide +kernel
theorem dX5_digest_51 : decode cX5_digest 51 = .ok (.iaload, 1) := by decide +kernel
theorem dX5_digest_52 : decode cX5_digest 52 = .ok (.i2l, 1) := by decide +kernel
theorem dX5_digest_53 : decode cX5_digest 53 = .ok (.invokevirtual 237, 3) := by decide +kernel
theorem dX5_digest_56 : decode cX5_digest 56 = .ok (.aload_n 0, 1) := by decide +kernel
theorem dX5_digest_57 : decode cX5_digest 57 = .ok (.aload_n 0, 1) := by decide +kernel
theorem dX5_digest_58 : decode cX5_digest 58 = .ok (.getfield 20, 3) := by decide +kernel
theorem dX5_digest_61 : decode cX5_digest 61 = .ok (.iload_n 1, 1) := by decide +kernel
theorem dX5_digest_62 : decode cX5_digest 62 = .ok (.iaload, 1) := by decide +kernel
theorem dX5_digest_63 : decode cX5_digest 63 = .ok (.i2l, 1) := by decide +kernel
theorem dX5_digest_64 : decode cX5_digest 64 = .ok (.invokevirtual 237, 3) := by decide +kernel
theorem dX5_digest_67 : decode cX5_digest 67 = .ok (.iconst 0, 1) := by decide +kernel
theorem dX5_digest_68 : decode cX5_digest 68 = .ok (.istore_n 2, 1) := by decide +kernel
theorem dX5_digest_69 : decode cX5_digest 69 = .ok (.iload_n 2, 1) := by decide +kernel
theorem dX5_digest_70 : decode cX5_digest 70 = .ok (.aload_n 0, 1) := by decide +kernel
theorem dX5_digest_71 : decode cX5_digest 71 = .ok (.getfield 20, 3) := by decide +kernel
theorem dX5_digest_74 : decode cX5_digest 74 = .ok (.iload_n 1, 1) := by decide +kernel
theorem dX5_digest_75 : decode cX5_digest 75 = .ok (.iaload, 1) := by decide +kernel
theorem dX5_digest_76 : decode cX5_digest 76 = .ok (.if_icmp .ge 43, 3) := by decide +kernel
theorem dX5_digest_79 : decode cX5_digest 79 = .ok (.iconst 0, 1) := by decide +kernel
theorem dX5_digest_80 : decode cX5_digest 80 = .ok (.istore_n 3, 1) := by decide +kernel
theorem dX5_digest_81 : decode cX5_digest 81 = .ok (.iload_n 3, 1) := by decide +kernel
theorem dX5_digest_82 : decode cX5_digest 82 = .ok (.aload_n 0, 1) := by decide +kernel
theorem dX5_digest_83 : decode cX5_digest 83 = .ok (.getfield 17, 3) := by decide +kernel
theorem dX5_digest_86 : decode cX5_digest 86 = .ok (.iload_n 1, 1) := by decide +kernel
theorem dX5_digest_87 : decode cX5_digest 87 = .ok (.iaload, 1) := by decide +kernel
theorem dX5_digest_88 : decode cX5_digest 88 = .ok (.if_icmp .ge 25, 3) := by decide +kernel
theorem dX5_digest_91 : decode cX5_digest 91 = .ok (.aload_n 0, 1) := by decide +kernel
theorem dX5_digest_92 : decode cX5_digest 92 = .ok (.aload_n 0, 1) := by decide +kernel
theorem dX5_digest_93 : decode cX5_digest 93 = .ok (.getfield 23, 3) := by decide +kernel
theorem dX5_digest_96 : decode cX5_digest 96 = .ok (.iload_n 1, 1) := by decide +kernel
theorem dX5_digest_97 : decode cX5_digest 97 = .ok (.iload_n 3, 1) := by decide +kernel
theorem dX5_digest_98 : decode cX5_digest 98 = .ok (.iload_n 2, 1) := by decide +kernel
theorem dX5_digest_99 : decode cX5_digest 99 = .ok (.invokestatic 96, 3) := by decide +kernel
theorem dX5_digest_102 : decode cX5_digest 102 = .ok (.iaload, 1) := by decide +kernel
theorem dX5_digest_103 : decode cX5_digest 103 = .ok (.i2l, 1) := by decide +kernel
theorem dX5_digest_104 : decode cX5_digest 104 = .ok (.invokevirtual 237, 3) := by decide +kernel
theorem dX5_digest_107 : decode cX5_digest 107 = .ok (.iinc 3 1, 3) := by decide +kernel
theorem dX5_digest_110 : decode cX5_digest 110 = .ok (.goto (-29), 3) := by decide +kernel
theorem dX5_digest_113 : decode cX5_digest 113 = .ok (.iinc 2 1, 3) := by decide +kernel
theorem dX5_digest_116 : decode cX5_digest 116 = .ok (.goto (-47), 3) := by decide +kernel
theorem dX5_digest_119 : decode cX5_digest 119 = .ok (.iinc 1 1, 3) := by decide +kernel
theorem dX5_digest_122 : decode cX5_digest 122 = .ok (.goto (-113), 3) := by decide +kernel
theorem dX5_digest_125 : decode cX5_digest 125 = .ok (.iconst 0, 1) := by decide +kernel
theorem dX5_digest_126 : decode cX5_digest 126 = .ok (.istore_n 1, 1) := by decide +kernel
theorem dX5_digest_127 : decode cX5_digest 127 = .ok (.iload_n 1, 1) := by decide +kernel
theorem dX5_digest_128 : decode cX5_digest 128 = .ok (.sipush 400, 3) := by decide +kernel
theorem dX5_digest_131 : decode cX5_digest 131 = .ok (.if_icmp .ge 24, 3) := by decide +kernel
theorem dX5_digest_134 : decode cX5_digest 134 = .ok (.aload_n 0, 1) := by decide +kernel
theorem dX5_digest_135 : decode cX5_digest 135 = .ok (.getfield 26, 3) := by decide +kernel
theorem dX5_digest_138 : decode cX5_digest 138 = .ok (.iload_n 1, 1) := by decide +kernel
theorem dX5_digest_139 : decode cX5_digest 139 = .ok (.baload, 1) := by decide +kernel
theorem dX5_digest_140 : decode cX5_digest 140 = .ok (.ifCond .eq 9, 3) := by decide +kernel
theorem dX5_digest_143 : decode cX5_digest 143 = .ok (.aload_n 0, 1) := by decide +kernel
theorem dX5_digest_144 : decode cX5_digest 144 = .ok (.iload_n 1, 1) := by decide +kernel
theorem dX5_digest_145 : decode cX5_digest 145 = .ok (.i2l, 1) := by decide +kernel
theorem dX5_digest_146 : decode cX5_digest 146 = .ok (.invokevirtual 237, 3) := by decide +kernel
theorem dX5_digest_149 : decode cX5_digest 149 = .ok (.iinc 1 1, 3) := by decide +kernel
theorem dX5_digest_152 : decode cX5_digest 152 = .ok (.goto (-25), 3) := by decide +kernel
theorem dX5_digest_155 : decode cX5_digest 155 = .ok (.iconst 0, 1) := by decide +kernel
theorem dX5_digest_156 : decode cX5_digest 156 = .ok (.istore_n 1, 1) := by decide +kernel
theorem dX5_digest_157 : decode cX5_digest 157 = .ok (.iload_n 1, 1) := by decide +kernel
theorem dX5_digest_158 : decode cX5_digest 158 = .ok (.aload_n 0, 1) := by decide +kernel
theorem dX5_digest_159 : decode cX5_digest 159 = .ok (.getfield 79, 3) := by decide +kernel
theorem dX5_digest_162 : decode cX5_digest 162 = .ok (.if_icmp .ge 67, 3) := by decide +kernel
theorem dX5_digest_165 : decode cX5_digest 165 = .ok (.iconst 0, 1) := by decide +kernel
theorem dX5_digest_166 : decode cX5_digest 166 = .ok (.istore_n 2, 1) := by decide +kernel
theorem dX5_digest_167 : decode cX5_digest 167 = .ok (.iload_n 2, 1) := by decide +kernel
theorem dX5_digest_168 : decode cX5_digest 168 = .ok (.bipush 8, 2) := by decide +kernel
theorem dX5_digest_170 : decode cX5_digest 170 = .ok (.if_icmp .ge 20, 3) := by decide +kernel
theorem dX5_digest_173 : decode cX5_digest 173 = .ok (.aload_n 0, 1) := by decide +kernel
theorem dX5_digest_174 : decode cX5_digest 174 = .ok (.aload_n 0, 1) := by decide +kernel
theorem dX5_digest_175 : decode cX5_digest 175 = .ok (.iload_n 1, 1) := by decide +kernel
theorem dX5_digest_176 : decode cX5_digest 176 = .ok (.iload_n 2, 1) := by decide +kernel
theorem dX5_digest_177 : decode cX5_digest 177 = .ok (.invokevirtual 241, 3) := by decide +kernel
theorem dX5_digest_180 : decode cX5_digest 180 = .ok (.i2l, 1) := by decide +kernel
theorem dX5_digest_181 : decode cX5_digest 181 = .ok (.invokevirtual 237, 3) := by decide +kernel
theorem dX5_digest_184 : decode cX5_digest 184 = .ok (.iinc 2 1, 3) := by decide +kernel
theorem dX5_digest_187 : decode cX5_digest 187 = .ok (.goto (-20), 3) := by decide +kernel
theorem dX5_digest_190 : decode cX5_digest 190 = .ok (.iconst 0, 1) := by decide +kernel
theorem dX5_digest_191 : decode cX5_digest 191 = .ok (.istore_n 2, 1) := by decide +kernel
theorem dX5_digest_192 : decode cX5_digest 192 = .ok (.iload_n 2, 1) := by decide +kernel
theorem dX5_digest_193 : decode cX5_digest 193 = .ok (.aload_n 0, 1) := by decide +kernel
theorem dX5_digest_194 : decode cX5_digest 194 = .ok (.getfield 38, 3) := by decide +kernel
theorem dX5_digest_197 : decode cX5_digest 197 = .ok (.iload_n 1, 1) := by decide +kernel
theorem dX5_digest_198 : decode cX5_digest 198 = .ok (.iaload, 1) := by decide +kernel
theorem dX5_digest_199 : decode cX5_digest 199 = .ok (.if_icmp .ge 24, 3) := by decide +kernel
theorem dX5_digest_202 : decode cX5_digest 202 = .ok (.aload_n 0, 1) := by decide +kernel
theorem dX5_digest_203 : decode cX5_digest 203 = .ok (.aload_n 0, 1) := by decide +kernel
theorem dX5_digest_204 : decode cX5_digest 204 = .ok (.getfield 41, 3) := by decide +kernel
theorem dX5_digest_207 : decode cX5_digest 207 = .ok (.bipush 20, 2) := by decide +kernel
theorem dX5_digest_209 : decode cX5_digest 209 = .ok (.iload_n 1, 1) := by decide +kernel
theorem dX5_digest_210 : decode cX5_digest 210 = .ok (.imul, 1) := by decide +kernel
theorem dX5_digest_211 : decode cX5_digest 211 = .ok (.iload_n 2, 1) := by decide +kernel
theorem dX5_digest_212 : decode cX5_digest 212 = .ok (.iadd, 1) := by decide +kernel
theorem dX5_digest_213 : decode cX5_digest 213 = .ok (.laload, 1) := by decide +kernel
theorem dX5_digest_214 : decode cX5_digest 214 = .ok (.invokevirtual 237, 3) := by decide +kernel
theorem dX5_digest_217 : decode cX5_digest 217 = .ok (.iinc 2 1, 3) := by decide +kernel
theorem dX5_digest_220 : decode cX5_digest 220 = .ok (.goto (-28), 3) := by decide +kernel
theorem dX5_digest_223 : decode cX5_digest 223 = .ok (.iinc 1 1, 3) := by decide +kernel
theorem dX5_digest_226 : decode cX5_digest 226 = .ok (.goto (-69), 3) := by decide +kernel
theorem dX5_digest_229 : decode cX5_digest 229 = .ok (.iconst 0, 1) := by decide +kernel
theorem dX5_digest_230 : decode cX5_digest 230 = .ok (.istore_n 1, 1) := by decide +kernel
theorem dX5_digest_231 : decode cX5_digest 231 = .ok (.iload_n 1, 1) := by decide +kernel
theorem dX5_digest_232 : decode cX5_digest 232 = .ok (.aload_n 0, 1) := by decide +kernel
theorem dX5_digest_233 : decode cX5_digest 233 = .ok (.getfield 173, 3) := by decide +kernel
theorem dX5_digest_236 : decode cX5_digest 236 = .ok (.if_icmp .ge 20, 3) := by decide +kernel
theorem dX5_digest_239 : decode cX5_digest 239 = .ok (.aload_n 0, 1) := by decide +kernel
theorem dX5_digest_240 : decode cX5_digest 240 = .ok (.aload_n 0, 1) := by decide +kernel
theorem dX5_digest_241 : decode cX5_digest 241 = .ok (.getfield 57, 3) := by decide +kernel
theorem dX5_digest_244 : decode cX5_digest 244 = .ok (.iload_n 1, 1) := by decide +kernel
theorem dX5_digest_245 : decode cX5_digest 245 = .ok (.iaload, 1) := by decide +kernel
theorem dX5_digest_246 : decode cX5_digest 246 = .ok (.i2l, 1) := by decide +kernel
theorem dX5_digest_247 : decode cX5_digest 247 = .ok (.invokevirtual 237, 3) := by decide +kernel
theorem dX5_digest_250 : decode cX5_digest 250 = .ok (.iinc 1 1, 3) := by decide +kernel
theorem dX5_digest_253 : decode cX5_digest 253 = .ok (.goto (-22), 3) := by decide +kernel
theorem dX5_digest_256 : decode cX5_digest 256 = .ok (.aload_n 0, 1) := by decide +kernel
theorem dX5_digest_257 : decode cX5_digest 257 = .ok (.aload_n 0, 1) := by decide +kernel
theorem dX5_digest_258 : decode cX5_digest 258 = .ok (.getfield 110, 3) := by decide +kernel
theorem dX5_digest_261 : decode cX5_digest 261 = .ok (.i2l, 1) := by decide +kernel
theorem dX5_digest_262 : decode cX5_digest 262 = .ok (.invokevirtual 237, 3) := by decide +kernel
theorem dX5_digest_265 : decode cX5_digest 265 = .ok (.aload_n 0, 1) := by decide +kernel
theorem dX5_digest_266 : decode cX5_digest 266 = .ok (.aload_n 0, 1) := by decide +kernel
theorem dX5_digest_267 : decode cX5_digest 267 = .ok (.getfield 198, 3) := by decide +kernel
theorem dX5_digest_270 : decode cX5_digest 270 = .ok (.i2l, 1) := by decide +kernel
theorem dX5_digest_271 : decode cX5_digest 271 = .ok (.invokevirtual 237, 3) := by decide +kernel
theorem dX5_digest_274 : decode cX5_digest 274 = .ok (.aload_n 0, 1) := by decide +kernel
theorem dX5_digest_275 : decode cX5_digest 275 = .ok (.getfield 232, 3) := by decide +kernel
theorem dX5_digest_278 : decode cX5_digest 278 = .ok (.lreturn, 1) := by decide +kernel
end
section
/-- the tables' words that a call carries along -/
def eT : List Cond := lw_tbl.filter goodWord
/-- the words on private members of nest mates, and on arrays of objects -/
def isNest : Cond → Bool
  | .methodLinkNest _ _ _ _ => true
  | _ => false
def eN : List Cond := lw_tbl.filter isNest
def NX (U : State) : Prop := (∀ w ∈ eN, va_Nw w U) ∧ va_AO "CombedLight$Plate" U ∧ va_AO "CombedLight$Comb" U
theorem NX.warm {s U : State} (hW : s.WarmedH U.vm) (h : NX s) : NX U := by
  refine ⟨fun w hw => ?_, va_AO.moved hW.alike h.2.1, va_AO.moved hW.alike h.2.2⟩
  have h1 := h.1 w hw
  have h2 := (List.mem_filter.mp hw).2
  match w, h1, h2 with
  | .methodLinkNest a i x b, h1, _ => exact va_Nw.warmM hW h1
theorem NX.same {u U : State} (hv : u.vm = U.vm) (h : NX u) : NX U := by
  refine ⟨fun w hw => ?_, va_AO.moved (by rw [hv]; exact Vm.Alike.refl _) h.2.1, va_AO.moved (by rw [hv]; exact Vm.Alike.refl _) h.2.2⟩
  have h1 := h.1 w hw
  have h2 := (List.mem_filter.mp hw).2
  match w, h1, h2 with
  | .methodLinkNest a i x b, h1, _ => exact va_Nw.same rfl hv h1
abbrev eM : Type := MethodName × Nat × Option FieldType × Nat × Nat
/-- a field's link: class number ci, place f among its fields -/
def okF (own : String) (idx ci f : Nat) : Prop := ∃ (C : String) (T : u_T) (N : Nat), vwCl[ci]? = some (C, T, N) ∧ f < N ∧ (∀ w ∈ u_ws C T N, w ∈ eT) ∧ Cond.fieldLink own idx C (T f).2.1 (T f).2.2.1 ∈ eT ∧ (T f).1 = C
def okP (own : String) (idx ci f : Nat) (ty : FieldType) : Prop := ∃ (C : String) (T : u_T) (N : Nat) (ty0 : Nat → FieldType), vwCl[ci]? = some (C, T, N) ∧ f < N ∧ (∀ w ∈ u_ws C T N, w ∈ eT) ∧ Cond.fieldLink own idx C (T f).2.1 (T f).2.2.1 ∈ eT ∧ (T f).1 = C ∧ (∀ k, k < N → parseFieldDescriptor (T k).2.2.1 = some (ty0 k)) ∧ (∀ a, a < N → ∀ b, b < N → a ≠ b → (T a).2.1 ≠ (T b).2.1) ∧ (T f).2.2.2 = false ∧ parseFieldDescriptor (T f).2.2.1 = some ty
/-- what the tables say of a method that is called -/
def okC (M' : eM) (cc' : ByteArray) (a : Nat) : Prop := Cond.initialized M'.1.cls ∈ eT ∧ Cond.code M'.1 cc' M'.2.1 M'.2.2.1 ∈ eT ∧ (M'.1.cls ≠ "java/lang/invoke/MethodHandle" ∧ M'.1.cls ≠ "java/lang/invoke/VarHandle") ∧ (parseMethodDescriptor M'.1.desc).map (fun d => d.parameters.length) = some a
def okV (M' : eM) (cc' : ByteArray) (a ci : Nat) : Prop := okC M' cc' a ∧ Cond.instanceMethod M'.1 ∈ eT ∧ Cond.selects M'.1.cls M'.1 M'.1 ∈ eT ∧ ∃ (T : u_T) (N : Nat), vwCl[ci]? = some (M'.1.cls, T, N)
def okS (M' : eM) (cc' : ByteArray) (a : Nat) : Prop := okC M' cc' a ∧ Cond.static M'.1 ∈ eT
end
section
theorem eT_at {w : Cond} (i : Nat) (h : (decide (lw_tbl[i]? = some w) && goodWord w) = true) : w ∈ eT := by
  simp only [Bool.and_eq_true, decide_eq_true_eq] at h
  exact List.mem_filter.mpr ⟨List.mem_of_getElem? h.1, h.2⟩
abbrev M_X0_init : eM := (yX0_init, 1, none, 2, 32)
abbrev M_X0_middleRow : eM := (yX0_middleRow, 4, (some .int), 1, 22)
abbrev M_X0_leastRow : eM := (yX0_leastRow, 3, (some .int), 2, 45)
abbrev M_X0_greatestRow : eM := (yX0_greatestRow, 3, (some .int), 2, 45)
abbrev M_X0_has : eM := (yX0_has, 2, (some .boolean), 0, 0)
abbrev M_X0_at : eM := (yX0_at, 2, (some .long), 1, 21)
abbrev M_X0_isPeak : eM := (yX0_isPeak, 4, (some .boolean), 2, 42)
abbrev M_X0_placeOfPeak : eM := (yX0_placeOfPeak, 4, (some .int), 2, 42)
abbrev M_X1_init : eM := (yX1_init, 1, none, 1, 12)
abbrev M_X1_become : eM := (yX1_become, 4, none, 0, 0)
abbrev M_X1_drop : eM := (yX1_drop, 1, none, 0, 0)
abbrev M_X1_losesTo : eM := (yX1_losesTo, 4, (some .boolean), 0, 0)
abbrev M_X2_init : eM := (yX2_init, 1, none, 1, 12)
abbrev M_X2_renew : eM := (yX2_renew, 4, none, 1, 23)
abbrev M_X2_holds : eM := (yX2_holds, 3, (some .boolean), 0, 0)
abbrev M_X2_at : eM := (yX2_at, 3, (some .int), 1, 22)
abbrev M_X2_set : eM := (yX2_set, 4, none, 1, 22)
abbrev M_X2_lightAt : eM := (yX2_lightAt, 3, (some .long), 2, 44)
abbrev M_X2_alike : eM := (yX2_alike, 2, (some .boolean), 0, 0)
abbrev M_X3_init : eM := (yX3_init, 1, none, 1, 12)
abbrev M_X3_empty : eM := (yX3_empty, 1, none, 0, 0)
abbrev M_X3_take : eM := (yX3_take, 5, none, 0, 0)
abbrev M_X3_quotient : eM := (yX3_quotient, 1, (some .long), 1, 25)
abbrev M_X4_init : eM := (yX4_init, 2, none, 3, 52)
abbrev M_X4_plate : eM := (yX4_plate, 6, (some .int), 2, 46)
abbrev M_X4_put : eM := (yX4_put, 7, (some .int), 2, 45)
abbrev M_X4_copy : eM := (yX4_copy, 7, (some .int), 2, 45)
abbrev M_X4_less : eM := (yX4_less, 7, (some .int), 2, 45)
abbrev M_X4_lose : eM := (yX4_lose, 3, (some .int), 2, 43)
abbrev M_X4_bad : eM := (yX4_bad, 5, (some .int), 2, 43)
abbrev M_X4_look : eM := (yX4_look, 5, (some .int), 2, 44)
abbrev M_X4_comb : eM := (yX4_comb, 5, (some .int), 1, 22)
abbrev M_X4_told : eM := (yX4_told, 4, (some .int), 2, 43)
abbrev M_X4_band : eM := (yX4_band, 9, (some .int), 3, 67)
abbrev M_X4_trace : eM := (yX4_trace, 7, (some .int), 4, 96)
abbrev M_X4_draw : eM := (yX4_draw, 9, (some .int), 6, 147)
abbrev M_X4_number : eM := (yX4_number, 4, (some .long), 2, 43)
abbrev M_X4_peaks : eM := (yX4_peaks, 5, (some .int), 4, 90)
abbrev M_X4_peak : eM := (yX4_peak, 7, (some .int), 4, 90)
abbrev M_X4_line : eM := (yX4_line, 2, (some .int), 1, 22)
abbrev M_X4_clear : eM := (yX4_clear, 2, (some .int), 0, 0)
abbrev M_X4_match : eM := (yX4_match, 9, (some .int), 4, 107)
abbrev M_X4_law : eM := (yX4_law, 5, (some .int), 2, 43)
abbrev M_X4_wave : eM := (yX4_wave, 4, (some .int), 2, 49)
abbrev M_X4_join : eM := (yX4_join, 6, (some .int), 4, 105)
abbrev M_X4_joined : eM := (yX4_joined, 2, (some .long), 1, 22)
abbrev M_X4_shift : eM := (yX4_shift, 6, (some .long), 3, 67)
abbrev M_X4_best : eM := (yX4_best, 12, (some .int), 3, 67)
abbrev M_X4_seen : eM := (yX4_seen, 1, (some .int), 0, 0)
abbrev M_X4_cause : eM := (yX4_cause, 1, (some .int), 0, 0)
abbrev M_X4_causes : eM := (yX4_causes, 2, (some .int), 1, 22)
abbrev M_X4_count : eM := (yX4_count, 2, (some .int), 1, 22)
abbrev M_X4_digest : eM := (yX4_digest, 4, (some .long), 3, 70)
abbrev M_X4_within : eM := (yX4_within, 3, (some .boolean), 0, 0)
abbrev M_X4_isLane : eM := (yX4_isLane, 1, (some .boolean), 1, 22)
abbrev M_X4_isCell : eM := (yX4_isCell, 2, (some .boolean), 1, 22)
abbrev M_X4_castToLane : eM := (yX4_castToLane, 2, (some .int), 0, 0)
abbrev M_X4_plateOf : eM := (yX4_plateOf, 2, (some (.object "CombedLight$Plate")), 1, 22)
abbrev M_X4_combOf : eM := (yX4_combOf, 2, (some (.object "CombedLight$Comb")), 1, 22)
abbrev M_X4_caused : eM := (yX4_caused, 2, (some .int), 0, 0)
abbrev M_X4_isBad : eM := (yX4_isBad, 3, (some .boolean), 2, 43)
abbrev M_X4_fact : eM := (yX4_fact, 2, (some .int), 0, 0)
abbrev M_X4_middleOfLight : eM := (yX4_middleOfLight, 10, (some .int), 3, 67)
abbrev M_X4_drawnNumber : eM := (yX4_drawnNumber, 7, (some .long), 5, 121)
abbrev M_X4_sumColumn : eM := (yX4_sumColumn, 8, none, 4, 89)
abbrev M_X4_counts : eM := (yX4_counts, 4, (some .boolean), 3, 66)
abbrev M_X4_rayRow : eM := (yX4_rayRow, 13, (some .int), 4, 89)
abbrev M_X4_findPlaces : eM := (yX4_findPlaces, 6, (some .int), 3, 65)
abbrev M_X4_waveAt : eM := (yX4_waveAt, 5, (some .long), 1, 25)
abbrev M_X4_tryPair : eM := (yX4_tryPair, 13, none, 3, 75)
abbrev M_X4_offer : eM := (yX4_offer, 7, none, 2, 49)
abbrev M_X4_nearLine : eM := (yX4_nearLine, 5, (some .boolean), 1, 21)
abbrev M_X4_joinAt : eM := (yX4_joinAt, 12, (some .boolean), 3, 74)
abbrev M_X4_columnAt : eM := (yX4_columnAt, 6, (some .int), 2, 49)
abbrev M_X4_crossSum : eM := (yX4_crossSum, 6, (some .long), 2, 42)
abbrev M_X4_plateCount : eM := (yX4_plateCount, 3, (some .int), 0, 0)
abbrev M_X4_badCount : eM := (yX4_badCount, 3, (some .int), 0, 0)
abbrev M_X4_lawCount : eM := (yX4_lawCount, 3, (some .int), 0, 0)
abbrev M_X4_mix : eM := (yX4_mix, 4, (some .long), 0, 0)
abbrev M_X4_digestPlate : eM := (yX4_digestPlate, 7, (some .long), 2, 44)
abbrev M_X4_digestComb : eM := (yX4_digestComb, 6, (some .long), 2, 42)
abbrev M_X5_init : eM := (yX5_init, 1, none, 1, 12)
abbrev M_X5_in : eM := (yX5_in, 6, (some .boolean), 0, 0)
abbrev M_X5_met : eM := (yX5_met, 2, (some .int), 0, 0)
abbrev M_X5_floor : eM := (yX5_floor, 6, (some .long), 0, 0)
abbrev M_X5_isPlate : eM := (yX5_isPlate, 1, (some .boolean), 1, 25)
abbrev M_X5_isComb : eM := (yX5_isComb, 2, (some .boolean), 1, 25)
abbrev M_X5_plate : eM := (yX5_plate, 6, (some .int), 2, 45)
abbrev M_X5_cast : eM := (yX5_cast, 2, (some .int), 0, 0)
abbrev M_X5_isPlace : eM := (yX5_isPlace, 4, (some .boolean), 1, 25)
abbrev M_X5_place : eM := (yX5_place, 3, (some .int), 0, 0)
abbrev M_X5_put : eM := (yX5_put, 6, (some .int), 2, 48)
abbrev M_X5_isLike : eM := (yX5_isLike, 3, (some .boolean), 0, 0)
abbrev M_X5_copy : eM := (yX5_copy, 4, (some .int), 2, 45)
abbrev M_X5_less : eM := (yX5_less, 4, (some .int), 2, 45)
abbrev M_X5_lose : eM := (yX5_lose, 2, (some .int), 2, 45)
abbrev M_X5_bad : eM := (yX5_bad, 5, (some .int), 1, 25)
abbrev M_X5_look : eM := (yX5_look, 4, (some .int), 2, 48)
abbrev M_X5_comb : eM := (yX5_comb, 4, (some .int), 1, 25)
abbrev M_X5_told : eM := (yX5_told, 3, (some .int), 2, 46)
abbrev M_X5_middle : eM := (yX5_middle, 5, (some .int), 1, 25)
abbrev M_X5_firstRow : eM := (yX5_firstRow, 5, (some .int), 2, 49)
abbrev M_X5_lastRow : eM := (yX5_lastRow, 5, (some .int), 2, 49)
abbrev M_X5_band : eM := (yX5_band, 7, (some .int), 3, 73)
abbrev M_X5_lightAt : eM := (yX5_lightAt, 11, (some .int), 3, 73)
abbrev M_X5_trace : eM := (yX5_trace, 5, (some .int), 4, 103)
abbrev M_X5_bounded : eM := (yX5_bounded, 2, (some .long), 0, 0)
abbrev M_X5_isUsed : eM := (yX5_isUsed, 4, (some .boolean), 1, 22)
abbrev M_X5_ray : eM := (yX5_ray, 17, (some .int), 3, 73)
abbrev M_X5_drawn : eM := (yX5_drawn, 16, (some .long), 4, 109)
abbrev M_X5_draw : eM := (yX5_draw, 6, (some .int), 5, 144)
abbrev M_X5_number : eM := (yX5_number, 3, (some .long), 2, 46)
abbrev M_X5_find : eM := (yX5_find, 11, none, 1, 25)
abbrev M_X5_peaks : eM := (yX5_peaks, 4, (some .int), 2, 55)
abbrev M_X5_peak : eM := (yX5_peak, 5, (some .int), 2, 55)
abbrev M_X5_line : eM := (yX5_line, 2, (some .int), 1, 25)
abbrev M_X5_clear : eM := (yX5_clear, 2, (some .int), 0, 0)
abbrev M_X5_waveOf : eM := (yX5_waveOf, 5, (some .long), 1, 25)
abbrev M_X5_fitting : eM := (yX5_fitting, 14, (some .int), 2, 49)
abbrev M_X5_tryLaw : eM := (yX5_tryLaw, 11, none, 3, 82)
abbrev M_X5_match : eM := (yX5_match, 9, (some .int), 4, 112)
abbrev M_X5_law : eM := (yX5_law, 4, (some .int), 2, 46)
abbrev M_X5_wave : eM := (yX5_wave, 3, (some .int), 2, 49)
abbrev M_X5_columnFor : eM := (yX5_columnFor, 11, (some .int), 0, 0)
abbrev M_X5_join : eM := (yX5_join, 14, (some .int), 1, 30)
abbrev M_X5_joined : eM := (yX5_joined, 2, (some .long), 1, 25)
abbrev M_X5_shiftOf : eM := (yX5_shiftOf, 7, (some .long), 1, 25)
abbrev M_X5_shift : eM := (yX5_shift, 4, (some .long), 2, 51)
abbrev M_X5_best : eM := (yX5_best, 10, (some .int), 2, 51)
abbrev M_X5_seen : eM := (yX5_seen, 1, (some .int), 0, 0)
abbrev M_X5_cause : eM := (yX5_cause, 1, (some .int), 0, 0)
abbrev M_X5_causes : eM := (yX5_causes, 2, (some .int), 1, 25)
abbrev M_X5_count : eM := (yX5_count, 4, (some .int), 0, 0)
abbrev M_X5_mix : eM := (yX5_mix, 3, none, 0, 0)
abbrev M_X5_digest : eM := (yX5_digest, 4, (some .long), 3, 68)
abbrev M_J9_floorDiv_7cf53 : eM := (yJ9_floorDiv_7cf53, 3, (some .int), 0, 0)
abbrev M_J9_floorDiv_f86c9 : eM := (yJ9_floorDiv_f86c9, 6, (some .long), 0, 0)
abbrev M_J9_abs_067f4 : eM := (yJ9_abs_067f4, 2, (some .long), 0, 0)
abbrev M_J9_max_7cf53 : eM := (yJ9_max_7cf53, 2, (some .int), 0, 0)
abbrev M_J9_min_7cf53 : eM := (yJ9_min_7cf53, 2, (some .int), 0, 0)
abbrev M_J7_fill_53178 : eM := (yJ7_fill_53178, 4, none, 0, 0)
theorem lkX0_29 : Cond.methodLink RX0 29 yJ9_floorDiv_7cf53 ∈ eT := eT_at 311 (by decide +kernel)
theorem lkX0_40 : Cond.methodLink RX0 40 yX0_middleRow ∈ eT := eT_at 307 (by decide +kernel)
theorem lkX0_46 : Cond.methodLink RX0 46 yJ9_max_7cf53 ∈ eT := eT_at 314 (by decide +kernel)
theorem lkX0_52 : Cond.methodLink RX0 52 yJ9_min_7cf53 ∈ eT := eT_at 321 (by decide +kernel)
theorem lkX0_58 : Cond.methodLink RX0 58 yX0_has ∈ eT := eT_at 397 (by decide +kernel)
theorem lkX0_62 : Cond.methodLink RX0 62 yX0_at ∈ eT := eT_at 411 (by decide +kernel)
theorem lkX0_68 : Cond.methodLink RX0 68 yJ9_floorDiv_f86c9 ∈ eT := eT_at 417 (by decide +kernel)
theorem lkX2_29 : Cond.methodLink RX2 29 yJ7_fill_53178 ∈ eT := eT_at 234 (by decide +kernel)
theorem lkX2_35 : Cond.methodLink RX2 35 yX2_holds ∈ eT := eT_at 249 (by decide +kernel)
theorem lkX2_44 : Cond.methodLink RX2 44 yX2_at ∈ eT := eT_at 341 (by decide +kernel)
theorem lkX2_47 : Cond.methodLink RX2 47 yJ9_min_7cf53 ∈ eT := eT_at 342 (by decide +kernel)
theorem lkX2_52 : Cond.methodLink RX2 52 yJ9_max_7cf53 ∈ eT := eT_at 343 (by decide +kernel)
theorem lkX3_26 : Cond.methodLink RX3 26 yJ9_floorDiv_f86c9 ∈ eT := eT_at 379 (by decide +kernel)
theorem lkX4_55 : Cond.methodLink RX4 55 yX4_plateOf ∈ eT := eT_at 216 (by decide +kernel)
theorem lkX4_59 : Cond.methodLink RX4 59 yX4_isLane ∈ eT := eT_at 223 (by decide +kernel)
theorem lkX4_63 : Cond.methodLink RX4 63 yX4_caused ∈ eT := eT_at 226 (by decide +kernel)
theorem lkX4_67 : Cond.methodLink RX4 67 yX2_renew ∈ eT := eT_at 230 (by decide +kernel)
theorem lkX4_79 : Cond.methodLink RX4 79 yX2_holds ∈ eT := eT_at 241 (by decide +kernel)
theorem lkX4_83 : Cond.methodLink RX4 83 yX2_set ∈ eT := eT_at 245 (by decide +kernel)
theorem lkX4_86 : Cond.methodLink RX4 86 yX2_alike ∈ eT := eT_at 257 (by decide +kernel)
theorem lkX4_96 : Cond.methodLink RX4 96 yX2_at ∈ eT := eT_at 261 (by decide +kernel)
theorem lkX4_100 : Cond.methodLink RX4 100 yX4_isCell ∈ eT := eT_at 277 (by decide +kernel)
theorem lkX4_106 : Cond.methodLink RX4 106 yX4_within ∈ eT := eT_at 220 (by decide +kernel)
theorem lkX4_122 : Cond.methodLink RX4 122 yX4_combOf ∈ eT := eT_at 292 (by decide +kernel)
theorem lkX4_126 : Cond.methodLink RX4 126 yX4_fact ∈ eT := eT_at 296 (by decide +kernel)
theorem lkX4_130 : Cond.methodLink RX4 130 yX0_leastRow ∈ eT := eT_at 303 (by decide +kernel)
theorem lkX4_134 : Cond.methodLink RX4 134 yX0_greatestRow ∈ eT := eT_at 317 (by decide +kernel)
theorem lkX4_137 : Cond.methodLink RX4 137 yX4_middleOfLight ∈ eT := eT_at 328 (by decide +kernel)
theorem lkX4_147 : Cond.methodLink RX4 147 yX4_drawnNumber ∈ eT := eT_at 351 (by decide +kernel)
theorem lkX4_154 : Cond.methodLink RX4 154 yX1_drop ∈ eT := eT_at 380 (by decide +kernel)
theorem lkX4_159 : Cond.methodLink RX4 159 yX0_has ∈ eT := eT_at 389 (by decide +kernel)
theorem lkX4_162 : Cond.methodLink RX4 162 yX0_at ∈ eT := eT_at 393 (by decide +kernel)
theorem lkX4_167 : Cond.methodLink RX4 167 yX4_findPlaces ∈ eT := eT_at 403 (by decide +kernel)
theorem lkX4_178 : Cond.methodLink RX4 178 yX4_tryPair ∈ eT := eT_at 435 (by decide +kernel)
theorem lkX4_190 : Cond.methodLink RX4 190 yX1_become ∈ eT := eT_at 461 (by decide +kernel)
theorem lkX4_198 : Cond.methodLink RX4 198 yX4_waveAt ∈ eT := eT_at 447 (by decide +kernel)
theorem lkX4_202 : Cond.methodLink RX4 202 yX4_lawCount ∈ eT := eT_at 482 (by decide +kernel)
theorem lkX4_206 : Cond.methodLink RX4 206 yX4_joinAt ∈ eT := eT_at 486 (by decide +kernel)
theorem lkX4_215 : Cond.methodLink RX4 215 yX4_crossSum ∈ eT := eT_at 502 (by decide +kernel)
theorem lkX4_222 : Cond.methodLink RX4 222 yX4_plateCount ∈ eT := eT_at 525 (by decide +kernel)
theorem lkX4_225 : Cond.methodLink RX4 225 yX4_badCount ∈ eT := eT_at 529 (by decide +kernel)
theorem lkX4_230 : Cond.methodLink RX4 230 yX4_digestPlate ∈ eT := eT_at 538 (by decide +kernel)
theorem lkX4_234 : Cond.methodLink RX4 234 yX4_mix ∈ eT := eT_at 541 (by decide +kernel)
theorem lkX4_238 : Cond.methodLink RX4 238 yX4_digestComb ∈ eT := eT_at 545 (by decide +kernel)
theorem lkX4_242 : Cond.methodLink RX4 242 yX4_isBad ∈ eT := eT_at 332 (by decide +kernel)
theorem lkX4_245 : Cond.methodLink RX4 245 yX2_lightAt ∈ eT := eT_at 336 (by decide +kernel)
theorem lkX4_249 : Cond.methodLink RX4 249 yJ9_floorDiv_f86c9 ∈ eT := eT_at 344 (by decide +kernel)
theorem lkX4_254 : Cond.methodLink RX4 254 yX4_sumColumn ∈ eT := eT_at 355 (by decide +kernel)
theorem lkX4_261 : Cond.methodLink RX4 261 yX4_rayRow ∈ eT := eT_at 371 (by decide +kernel)
theorem lkX4_265 : Cond.methodLink RX4 265 yX3_quotient ∈ eT := eT_at 375 (by decide +kernel)
theorem lkX4_269 : Cond.methodLink RX4 269 yX3_empty ∈ eT := eT_at 359 (by decide +kernel)
theorem lkX4_272 : Cond.methodLink RX4 272 yX4_counts ∈ eT := eT_at 363 (by decide +kernel)
theorem lkX4_276 : Cond.methodLink RX4 276 yX3_take ∈ eT := eT_at 367 (by decide +kernel)
theorem lkX4_287 : Cond.methodLink RX4 287 yX0_isPeak ∈ eT := eT_at 407 (by decide +kernel)
theorem lkX4_290 : Cond.methodLink RX4 290 yX0_placeOfPeak ∈ eT := eT_at 412 (by decide +kernel)
theorem lkX4_301 : Cond.methodLink RX4 301 yX4_offer ∈ eT := eT_at 443 (by decide +kernel)
theorem lkX4_304 : Cond.methodLink RX4 304 yX4_nearLine ∈ eT := eT_at 450 (by decide +kernel)
theorem lkX4_308 : Cond.methodLink RX4 308 yX1_losesTo ∈ eT := eT_at 457 (by decide +kernel)
theorem lkX4_311 : Cond.methodLink RX4 311 yJ9_abs_067f4 ∈ eT := eT_at 454 (by decide +kernel)
theorem lkX4_315 : Cond.methodLink RX4 315 yX4_columnAt ∈ eT := eT_at 490 (by decide +kernel)
theorem lkX5_75 : Cond.methodLink RX5 75 yX5_in ∈ eT := eT_at 653 (by decide +kernel)
theorem lkX5_82 : Cond.methodLink RX5 82 yX5_isPlate ∈ eT := eT_at 649 (by decide +kernel)
theorem lkX5_88 : Cond.methodLink RX5 88 yX5_met ∈ eT := eT_at 657 (by decide +kernel)
theorem lkX5_92 : Cond.methodLink RX5 92 yX5_isPlace ∈ eT := eT_at 665 (by decide +kernel)
theorem lkX5_96 : Cond.methodLink RX5 96 yX5_place ∈ eT := eT_at 669 (by decide +kernel)
theorem lkX5_100 : Cond.methodLink RX5 100 yX5_cast ∈ eT := eT_at 672 (by decide +kernel)
theorem lkX5_104 : Cond.methodLink RX5 104 yX5_isLike ∈ eT := eT_at 679 (by decide +kernel)
theorem lkX5_117 : Cond.methodLink RX5 117 yX5_isComb ∈ eT := eT_at 710 (by decide +kernel)
theorem lkX5_120 : Cond.methodLink RX5 120 yX5_floor ∈ eT := eT_at 726 (by decide +kernel)
theorem lkX5_124 : Cond.methodLink RX5 124 yX5_middle ∈ eT := eT_at 722 (by decide +kernel)
theorem lkX5_127 : Cond.methodLink RX5 127 yX5_firstRow ∈ eT := eT_at 718 (by decide +kernel)
theorem lkX5_130 : Cond.methodLink RX5 130 yX5_lastRow ∈ eT := eT_at 729 (by decide +kernel)
theorem lkX5_133 : Cond.methodLink RX5 133 yX5_bounded ∈ eT := eT_at 741 (by decide +kernel)
theorem lkX5_139 : Cond.methodLink RX5 139 yX5_lightAt ∈ eT := eT_at 737 (by decide +kernel)
theorem lkX5_145 : Cond.methodLink RX5 145 yX5_isUsed ∈ eT := eT_at 761 (by decide +kernel)
theorem lkX5_148 : Cond.methodLink RX5 148 yX5_ray ∈ eT := eT_at 757 (by decide +kernel)
theorem lkX5_154 : Cond.methodLink RX5 154 yX5_drawn ∈ eT := eT_at 753 (by decide +kernel)
theorem lkX5_167 : Cond.methodLink RX5 167 yX5_find ∈ eT := eT_at 775 (by decide +kernel)
theorem lkX5_176 : Cond.methodLink RX5 176 yX5_waveOf ∈ eT := eT_at 807 (by decide +kernel)
theorem lkX5_182 : Cond.methodLink RX5 182 yX5_fitting ∈ eT := eT_at 803 (by decide +kernel)
theorem lkX5_201 : Cond.methodLink RX5 201 yX5_tryLaw ∈ eT := eT_at 798 (by decide +kernel)
theorem lkX5_212 : Cond.methodLink RX5 212 yX5_count ∈ eT := eT_at 827 (by decide +kernel)
theorem lkX5_218 : Cond.methodLink RX5 218 yX5_columnFor ∈ eT := eT_at 831 (by decide +kernel)
theorem lkX5_224 : Cond.methodLink RX5 224 yX5_shiftOf ∈ eT := eT_at 844 (by decide +kernel)
theorem lkX5_237 : Cond.methodLink RX5 237 yX5_mix ∈ eT := eT_at 871 (by decide +kernel)
theorem lkX5_241 : Cond.methodLink RX5 241 yX5_told ∈ eT := eT_at 876 (by decide +kernel)
theorem lkL_9 : Cond.methodLink RL 9 yX4_init ∈ eT := eT_at 46 (by decide +kernel)
theorem lkL_12 : Cond.methodLink RL 12 yX5_init ∈ eT := eT_at 550 (by decide +kernel)
theorem lkL_13 : Cond.methodLink RL 13 yX4_plate ∈ eT := eT_at 212 (by decide +kernel)
theorem lkL_17 : Cond.methodLink RL 17 yX5_plate ∈ eT := eT_at 645 (by decide +kernel)
theorem lkL_18 : Cond.methodLink RL 18 yX4_put ∈ eT := eT_at 237 (by decide +kernel)
theorem lkL_22 : Cond.methodLink RL 22 yX5_put ∈ eT := eT_at 661 (by decide +kernel)
theorem lkL_23 : Cond.methodLink RL 23 yX4_copy ∈ eT := eT_at 253 (by decide +kernel)
theorem lkL_27 : Cond.methodLink RL 27 yX5_copy ∈ eT := eT_at 675 (by decide +kernel)
theorem lkL_28 : Cond.methodLink RL 28 yX4_less ∈ eT := eT_at 265 (by decide +kernel)
theorem lkL_31 : Cond.methodLink RL 31 yX5_less ∈ eT := eT_at 683 (by decide +kernel)
theorem lkL_32 : Cond.methodLink RL 32 yX4_lose ∈ eT := eT_at 269 (by decide +kernel)
theorem lkL_36 : Cond.methodLink RL 36 yX5_lose ∈ eT := eT_at 687 (by decide +kernel)
theorem lkL_37 : Cond.methodLink RL 37 yX4_bad ∈ eT := eT_at 273 (by decide +kernel)
theorem lkL_41 : Cond.methodLink RL 41 yX5_bad ∈ eT := eT_at 691 (by decide +kernel)
theorem lkL_42 : Cond.methodLink RL 42 yX4_look ∈ eT := eT_at 280 (by decide +kernel)
theorem lkL_46 : Cond.methodLink RL 46 yX5_look ∈ eT := eT_at 696 (by decide +kernel)
theorem lkL_47 : Cond.methodLink RL 47 yX4_comb ∈ eT := eT_at 284 (by decide +kernel)
theorem lkL_50 : Cond.methodLink RL 50 yX5_comb ∈ eT := eT_at 700 (by decide +kernel)
theorem lkL_51 : Cond.methodLink RL 51 yX4_told ∈ eT := eT_at 288 (by decide +kernel)
theorem lkL_54 : Cond.methodLink RL 54 yX5_told ∈ eT := eT_at 706 (by decide +kernel)
theorem lkL_55 : Cond.methodLink RL 55 yX4_band ∈ eT := eT_at 299 (by decide +kernel)
theorem lkL_58 : Cond.methodLink RL 58 yX5_band ∈ eT := eT_at 714 (by decide +kernel)
theorem lkL_59 : Cond.methodLink RL 59 yX4_trace ∈ eT := eT_at 324 (by decide +kernel)
theorem lkL_62 : Cond.methodLink RL 62 yX5_trace ∈ eT := eT_at 733 (by decide +kernel)
theorem lkL_63 : Cond.methodLink RL 63 yX4_draw ∈ eT := eT_at 347 (by decide +kernel)
theorem lkL_66 : Cond.methodLink RL 66 yX5_draw ∈ eT := eT_at 748 (by decide +kernel)
theorem lkL_67 : Cond.methodLink RL 67 yX4_number ∈ eT := eT_at 384 (by decide +kernel)
theorem lkL_71 : Cond.methodLink RL 71 yX5_number ∈ eT := eT_at 765 (by decide +kernel)
theorem lkL_74 : Cond.methodLink RL 74 yX4_peaks ∈ eT := eT_at 399 (by decide +kernel)
theorem lkL_78 : Cond.methodLink RL 78 yX5_peaks ∈ eT := eT_at 771 (by decide +kernel)
theorem lkL_79 : Cond.methodLink RL 79 yX4_peak ∈ eT := eT_at 418 (by decide +kernel)
theorem lkL_83 : Cond.methodLink RL 83 yX5_peak ∈ eT := eT_at 780 (by decide +kernel)
theorem lkL_84 : Cond.methodLink RL 84 yX4_line ∈ eT := eT_at 422 (by decide +kernel)
theorem lkL_87 : Cond.methodLink RL 87 yX5_line ∈ eT := eT_at 784 (by decide +kernel)
theorem lkL_88 : Cond.methodLink RL 88 yX4_clear ∈ eT := eT_at 427 (by decide +kernel)
theorem lkL_92 : Cond.methodLink RL 92 yX5_clear ∈ eT := eT_at 789 (by decide +kernel)
theorem lkL_93 : Cond.methodLink RL 93 yX4_match ∈ eT := eT_at 431 (by decide +kernel)
theorem lkL_96 : Cond.methodLink RL 96 yX5_match ∈ eT := eT_at 793 (by decide +kernel)
theorem lkL_97 : Cond.methodLink RL 97 yX4_law ∈ eT := eT_at 465 (by decide +kernel)
theorem lkL_100 : Cond.methodLink RL 100 yX5_law ∈ eT := eT_at 810 (by decide +kernel)
theorem lkL_101 : Cond.methodLink RL 101 yX4_wave ∈ eT := eT_at 471 (by decide +kernel)
theorem lkL_104 : Cond.methodLink RL 104 yX5_wave ∈ eT := eT_at 814 (by decide +kernel)
theorem lkL_105 : Cond.methodLink RL 105 yX4_join ∈ eT := eT_at 478 (by decide +kernel)
theorem lkL_108 : Cond.methodLink RL 108 yX5_join ∈ eT := eT_at 822 (by decide +kernel)
theorem lkL_109 : Cond.methodLink RL 109 yX4_joined ∈ eT := eT_at 493 (by decide +kernel)
theorem lkL_113 : Cond.methodLink RL 113 yX5_joined ∈ eT := eT_at 835 (by decide +kernel)
theorem lkL_114 : Cond.methodLink RL 114 yX4_shift ∈ eT := eT_at 497 (by decide +kernel)
theorem lkL_118 : Cond.methodLink RL 118 yX5_shift ∈ eT := eT_at 839 (by decide +kernel)
theorem lkL_119 : Cond.methodLink RL 119 yX4_best ∈ eT := eT_at 505 (by decide +kernel)
theorem lkL_122 : Cond.methodLink RL 122 yX5_best ∈ eT := eT_at 849 (by decide +kernel)
theorem lkL_123 : Cond.methodLink RL 123 yX4_seen ∈ eT := eT_at 509 (by decide +kernel)
theorem lkL_126 : Cond.methodLink RL 126 yX5_seen ∈ eT := eT_at 853 (by decide +kernel)
theorem lkL_127 : Cond.methodLink RL 127 yX4_cause ∈ eT := eT_at 513 (by decide +kernel)
theorem lkL_130 : Cond.methodLink RL 130 yX5_cause ∈ eT := eT_at 857 (by decide +kernel)
theorem lkL_131 : Cond.methodLink RL 131 yX4_causes ∈ eT := eT_at 517 (by decide +kernel)
theorem lkL_134 : Cond.methodLink RL 134 yX5_causes ∈ eT := eT_at 861 (by decide +kernel)
theorem lkL_135 : Cond.methodLink RL 135 yX4_count ∈ eT := eT_at 521 (by decide +kernel)
theorem lkL_138 : Cond.methodLink RL 138 yX5_count ∈ eT := eT_at 865 (by decide +kernel)
theorem lkL_139 : Cond.methodLink RL 139 yX4_digest ∈ eT := eT_at 533 (by decide +kernel)
theorem lkL_143 : Cond.methodLink RL 143 yX5_digest ∈ eT := eT_at 866 (by decide +kernel)
theorem okC_J7_fill_53178 : okC M_J7_fill_53178 cJ7_fill_53178 2 := ⟨eT_at 42 (by decide +kernel), eT_at 236 (by decide +kernel), ⟨by decide +kernel, by decide +kernel⟩, by decide +kernel⟩
theorem okS_J7_fill_53178 : okS M_J7_fill_53178 cJ7_fill_53178 2 := ⟨okC_J7_fill_53178, eT_at 235 (by decide +kernel)⟩
theorem okC_J9_abs_067f4 : okC M_J9_abs_067f4 cJ9_abs_067f4 1 := ⟨eT_at 43 (by decide +kernel), eT_at 456 (by decide +kernel), ⟨by decide +kernel, by decide +kernel⟩, by decide +kernel⟩
theorem okS_J9_abs_067f4 : okS M_J9_abs_067f4 cJ9_abs_067f4 1 := ⟨okC_J9_abs_067f4, eT_at 455 (by decide +kernel)⟩
theorem okC_J9_floorDiv_7cf53 : okC M_J9_floorDiv_7cf53 cJ9_floorDiv_7cf53 2 := ⟨eT_at 43 (by decide +kernel), eT_at 313 (by decide +kernel), ⟨by decide +kernel, by decide +kernel⟩, by decide +kernel⟩
theorem okS_J9_floorDiv_7cf53 : okS M_J9_floorDiv_7cf53 cJ9_floorDiv_7cf53 2 := ⟨okC_J9_floorDiv_7cf53, eT_at 312 (by decide +kernel)⟩
theorem okC_J9_floorDiv_f86c9 : okC M_J9_floorDiv_f86c9 cJ9_floorDiv_f86c9 2 := ⟨eT_at 43 (by decide +kernel), eT_at 346 (by decide +kernel), ⟨by decide +kernel, by decide +kernel⟩, by decide +kernel⟩
theorem okS_J9_floorDiv_f86c9 : okS M_J9_floorDiv_f86c9 cJ9_floorDiv_f86c9 2 := ⟨okC_J9_floorDiv_f86c9, eT_at 345 (by decide +kernel)⟩
theorem okC_J9_max_7cf53 : okC M_J9_max_7cf53 cJ9_max_7cf53 2 := ⟨eT_at 43 (by decide +kernel), eT_at 316 (by decide +kernel), ⟨by decide +kernel, by decide +kernel⟩, by decide +kernel⟩
theorem okS_J9_max_7cf53 : okS M_J9_max_7cf53 cJ9_max_7cf53 2 := ⟨okC_J9_max_7cf53, eT_at 315 (by decide +kernel)⟩
theorem okC_J9_min_7cf53 : okC M_J9_min_7cf53 cJ9_min_7cf53 2 := ⟨eT_at 43 (by decide +kernel), eT_at 323 (by decide +kernel), ⟨by decide +kernel, by decide +kernel⟩, by decide +kernel⟩
theorem okS_J9_min_7cf53 : okS M_J9_min_7cf53 cJ9_min_7cf53 2 := ⟨okC_J9_min_7cf53, eT_at 322 (by decide +kernel)⟩
theorem okC_X0_at : okC M_X0_at cX0_at 1 := ⟨eT_at 40 (by decide +kernel), eT_at 396 (by decide +kernel), ⟨by decide +kernel, by decide +kernel⟩, by decide +kernel⟩
theorem okV_X0_at : okV M_X0_at cX0_at 1 0 := ⟨okC_X0_at, eT_at 394 (by decide +kernel), eT_at 395 (by decide +kernel), TX0, _, rfl⟩
theorem okC_X0_greatestRow : okC M_X0_greatestRow cX0_greatestRow 2 := ⟨eT_at 40 (by decide +kernel), eT_at 320 (by decide +kernel), ⟨by decide +kernel, by decide +kernel⟩, by decide +kernel⟩
theorem okV_X0_greatestRow : okV M_X0_greatestRow cX0_greatestRow 2 0 := ⟨okC_X0_greatestRow, eT_at 318 (by decide +kernel), eT_at 319 (by decide +kernel), TX0, _, rfl⟩
theorem okC_X0_has : okC M_X0_has cX0_has 1 := ⟨eT_at 40 (by decide +kernel), eT_at 392 (by decide +kernel), ⟨by decide +kernel, by decide +kernel⟩, by decide +kernel⟩
theorem okV_X0_has : okV M_X0_has cX0_has 1 0 := ⟨okC_X0_has, eT_at 390 (by decide +kernel), eT_at 391 (by decide +kernel), TX0, _, rfl⟩
theorem okC_X0_init : okC M_X0_init cX0_init 0 := ⟨eT_at 40 (by decide +kernel), eT_at 137 (by decide +kernel), ⟨by decide +kernel, by decide +kernel⟩, by decide +kernel⟩
theorem okC_X0_isPeak : okC M_X0_isPeak cX0_isPeak 2 := ⟨eT_at 40 (by decide +kernel), eT_at 410 (by decide +kernel), ⟨by decide +kernel, by decide +kernel⟩, by decide +kernel⟩
theorem okV_X0_isPeak : okV M_X0_isPeak cX0_isPeak 2 0 := ⟨okC_X0_isPeak, eT_at 408 (by decide +kernel), eT_at 409 (by decide +kernel), TX0, _, rfl⟩
theorem okC_X0_leastRow : okC M_X0_leastRow cX0_leastRow 2 := ⟨eT_at 40 (by decide +kernel), eT_at 306 (by decide +kernel), ⟨by decide +kernel, by decide +kernel⟩, by decide +kernel⟩
theorem okV_X0_leastRow : okV M_X0_leastRow cX0_leastRow 2 0 := ⟨okC_X0_leastRow, eT_at 304 (by decide +kernel), eT_at 305 (by decide +kernel), TX0, _, rfl⟩
theorem okC_X0_middleRow : okC M_X0_middleRow cX0_middleRow 2 := ⟨eT_at 40 (by decide +kernel), eT_at 310 (by decide +kernel), ⟨by decide +kernel, by decide +kernel⟩, by decide +kernel⟩
theorem okV_X0_middleRow : okV M_X0_middleRow cX0_middleRow 2 0 := ⟨okC_X0_middleRow, eT_at 308 (by decide +kernel), eT_at 309 (by decide +kernel), TX0, _, rfl⟩
theorem okC_X0_placeOfPeak : okC M_X0_placeOfPeak cX0_placeOfPeak 1 := ⟨eT_at 40 (by decide +kernel), eT_at 415 (by decide +kernel), ⟨by decide +kernel, by decide +kernel⟩, by decide +kernel⟩
theorem okV_X0_placeOfPeak : okV M_X0_placeOfPeak cX0_placeOfPeak 1 0 := ⟨okC_X0_placeOfPeak, eT_at 413 (by decide +kernel), eT_at 414 (by decide +kernel), TX0, _, rfl⟩
theorem okC_X1_become : okC M_X1_become cX1_become 3 := ⟨eT_at 38 (by decide +kernel), eT_at 464 (by decide +kernel), ⟨by decide +kernel, by decide +kernel⟩, by decide +kernel⟩
theorem okV_X1_become : okV M_X1_become cX1_become 3 1 := ⟨okC_X1_become, eT_at 462 (by decide +kernel), eT_at 463 (by decide +kernel), TX1, _, rfl⟩
theorem okC_X1_drop : okC M_X1_drop cX1_drop 0 := ⟨eT_at 38 (by decide +kernel), eT_at 383 (by decide +kernel), ⟨by decide +kernel, by decide +kernel⟩, by decide +kernel⟩
theorem okV_X1_drop : okV M_X1_drop cX1_drop 0 1 := ⟨okC_X1_drop, eT_at 381 (by decide +kernel), eT_at 382 (by decide +kernel), TX1, _, rfl⟩
theorem okC_X1_init : okC M_X1_init cX1_init 0 := ⟨eT_at 38 (by decide +kernel), eT_at 88 (by decide +kernel), ⟨by decide +kernel, by decide +kernel⟩, by decide +kernel⟩
theorem okC_X1_losesTo : okC M_X1_losesTo cX1_losesTo 3 := ⟨eT_at 38 (by decide +kernel), eT_at 460 (by decide +kernel), ⟨by decide +kernel, by decide +kernel⟩, by decide +kernel⟩
theorem okV_X1_losesTo : okV M_X1_losesTo cX1_losesTo 3 1 := ⟨okC_X1_losesTo, eT_at 458 (by decide +kernel), eT_at 459 (by decide +kernel), TX1, _, rfl⟩
theorem okC_X2_alike : okC M_X2_alike cX2_alike 1 := ⟨eT_at 39 (by decide +kernel), eT_at 260 (by decide +kernel), ⟨by decide +kernel, by decide +kernel⟩, by decide +kernel⟩
theorem okV_X2_alike : okV M_X2_alike cX2_alike 1 2 := ⟨okC_X2_alike, eT_at 258 (by decide +kernel), eT_at 259 (by decide +kernel), TX2, _, rfl⟩
theorem okC_X2_at : okC M_X2_at cX2_at 2 := ⟨eT_at 39 (by decide +kernel), eT_at 264 (by decide +kernel), ⟨by decide +kernel, by decide +kernel⟩, by decide +kernel⟩
theorem okV_X2_at : okV M_X2_at cX2_at 2 2 := ⟨okC_X2_at, eT_at 262 (by decide +kernel), eT_at 263 (by decide +kernel), TX2, _, rfl⟩
theorem okC_X2_holds : okC M_X2_holds cX2_holds 2 := ⟨eT_at 39 (by decide +kernel), eT_at 244 (by decide +kernel), ⟨by decide +kernel, by decide +kernel⟩, by decide +kernel⟩
theorem okV_X2_holds : okV M_X2_holds cX2_holds 2 2 := ⟨okC_X2_holds, eT_at 242 (by decide +kernel), eT_at 243 (by decide +kernel), TX2, _, rfl⟩
theorem okC_X2_init : okC M_X2_init cX2_init 0 := ⟨eT_at 39 (by decide +kernel), eT_at 110 (by decide +kernel), ⟨by decide +kernel, by decide +kernel⟩, by decide +kernel⟩
theorem okC_X2_lightAt : okC M_X2_lightAt cX2_lightAt 2 := ⟨eT_at 39 (by decide +kernel), eT_at 339 (by decide +kernel), ⟨by decide +kernel, by decide +kernel⟩, by decide +kernel⟩
theorem okV_X2_lightAt : okV M_X2_lightAt cX2_lightAt 2 2 := ⟨okC_X2_lightAt, eT_at 337 (by decide +kernel), eT_at 338 (by decide +kernel), TX2, _, rfl⟩
theorem okC_X2_renew : okC M_X2_renew cX2_renew 3 := ⟨eT_at 39 (by decide +kernel), eT_at 233 (by decide +kernel), ⟨by decide +kernel, by decide +kernel⟩, by decide +kernel⟩
theorem okV_X2_renew : okV M_X2_renew cX2_renew 3 2 := ⟨okC_X2_renew, eT_at 231 (by decide +kernel), eT_at 232 (by decide +kernel), TX2, _, rfl⟩
theorem okC_X2_set : okC M_X2_set cX2_set 3 := ⟨eT_at 39 (by decide +kernel), eT_at 248 (by decide +kernel), ⟨by decide +kernel, by decide +kernel⟩, by decide +kernel⟩
theorem okV_X2_set : okV M_X2_set cX2_set 3 2 := ⟨okC_X2_set, eT_at 246 (by decide +kernel), eT_at 247 (by decide +kernel), TX2, _, rfl⟩
theorem okC_X3_empty : okC M_X3_empty cX3_empty 0 := ⟨eT_at 37 (by decide +kernel), eT_at 362 (by decide +kernel), ⟨by decide +kernel, by decide +kernel⟩, by decide +kernel⟩
theorem okV_X3_empty : okV M_X3_empty cX3_empty 0 3 := ⟨okC_X3_empty, eT_at 360 (by decide +kernel), eT_at 361 (by decide +kernel), TX3, _, rfl⟩
theorem okC_X3_init : okC M_X3_init cX3_init 0 := ⟨eT_at 37 (by decide +kernel), eT_at 60 (by decide +kernel), ⟨by decide +kernel, by decide +kernel⟩, by decide +kernel⟩
theorem okC_X3_quotient : okC M_X3_quotient cX3_quotient 0 := ⟨eT_at 37 (by decide +kernel), eT_at 378 (by decide +kernel), ⟨by decide +kernel, by decide +kernel⟩, by decide +kernel⟩
theorem okV_X3_quotient : okV M_X3_quotient cX3_quotient 0 3 := ⟨okC_X3_quotient, eT_at 376 (by decide +kernel), eT_at 377 (by decide +kernel), TX3, _, rfl⟩
theorem okC_X3_take : okC M_X3_take cX3_take 2 := ⟨eT_at 37 (by decide +kernel), eT_at 370 (by decide +kernel), ⟨by decide +kernel, by decide +kernel⟩, by decide +kernel⟩
theorem okV_X3_take : okV M_X3_take cX3_take 2 3 := ⟨okC_X3_take, eT_at 368 (by decide +kernel), eT_at 369 (by decide +kernel), TX3, _, rfl⟩
theorem okC_X4_bad : okC M_X4_bad cX4_bad 3 := ⟨eT_at 36 (by decide +kernel), eT_at 276 (by decide +kernel), ⟨by decide +kernel, by decide +kernel⟩, by decide +kernel⟩
theorem okV_X4_bad : okV M_X4_bad cX4_bad 3 4 := ⟨okC_X4_bad, eT_at 274 (by decide +kernel), eT_at 275 (by decide +kernel), TX4, _, rfl⟩
theorem okC_X4_badCount : okC M_X4_badCount cX4_badCount 0 := ⟨eT_at 36 (by decide +kernel), eT_at 532 (by decide +kernel), ⟨by decide +kernel, by decide +kernel⟩, by decide +kernel⟩
theorem okV_X4_badCount : okV M_X4_badCount cX4_badCount 0 4 := ⟨okC_X4_badCount, eT_at 531 (by decide +kernel), eT_at 16 (by decide +kernel), TX4, _, rfl⟩
theorem okC_X4_band : okC M_X4_band cX4_band 4 := ⟨eT_at 36 (by decide +kernel), eT_at 302 (by decide +kernel), ⟨by decide +kernel, by decide +kernel⟩, by decide +kernel⟩
theorem okV_X4_band : okV M_X4_band cX4_band 4 4 := ⟨okC_X4_band, eT_at 300 (by decide +kernel), eT_at 301 (by decide +kernel), TX4, _, rfl⟩
theorem okC_X4_best : okC M_X4_best cX4_best 2 := ⟨eT_at 36 (by decide +kernel), eT_at 508 (by decide +kernel), ⟨by decide +kernel, by decide +kernel⟩, by decide +kernel⟩
theorem okV_X4_best : okV M_X4_best cX4_best 2 4 := ⟨okC_X4_best, eT_at 506 (by decide +kernel), eT_at 507 (by decide +kernel), TX4, _, rfl⟩
theorem okC_X4_castToLane : okC M_X4_castToLane cX4_castToLane 2 := ⟨eT_at 36 (by decide +kernel), eT_at 252 (by decide +kernel), ⟨by decide +kernel, by decide +kernel⟩, by decide +kernel⟩
theorem okS_X4_castToLane : okS M_X4_castToLane cX4_castToLane 2 := ⟨okC_X4_castToLane, eT_at 251 (by decide +kernel)⟩
theorem okC_X4_cause : okC M_X4_cause cX4_cause 0 := ⟨eT_at 36 (by decide +kernel), eT_at 516 (by decide +kernel), ⟨by decide +kernel, by decide +kernel⟩, by decide +kernel⟩
theorem okV_X4_cause : okV M_X4_cause cX4_cause 0 4 := ⟨okC_X4_cause, eT_at 514 (by decide +kernel), eT_at 515 (by decide +kernel), TX4, _, rfl⟩
theorem okC_X4_caused : okC M_X4_caused cX4_caused 1 := ⟨eT_at 36 (by decide +kernel), eT_at 229 (by decide +kernel), ⟨by decide +kernel, by decide +kernel⟩, by decide +kernel⟩
theorem okV_X4_caused : okV M_X4_caused cX4_caused 1 4 := ⟨okC_X4_caused, eT_at 228 (by decide +kernel), eT_at 1 (by decide +kernel), TX4, _, rfl⟩
theorem okC_X4_causes : okC M_X4_causes cX4_causes 1 := ⟨eT_at 36 (by decide +kernel), eT_at 520 (by decide +kernel), ⟨by decide +kernel, by decide +kernel⟩, by decide +kernel⟩
theorem okV_X4_causes : okV M_X4_causes cX4_causes 1 4 := ⟨okC_X4_causes, eT_at 518 (by decide +kernel), eT_at 519 (by decide +kernel), TX4, _, rfl⟩
theorem okC_X4_clear : okC M_X4_clear cX4_clear 0 := ⟨eT_at 36 (by decide +kernel), eT_at 430 (by decide +kernel), ⟨by decide +kernel, by decide +kernel⟩, by decide +kernel⟩
theorem okV_X4_clear : okV M_X4_clear cX4_clear 0 4 := ⟨okC_X4_clear, eT_at 428 (by decide +kernel), eT_at 429 (by decide +kernel), TX4, _, rfl⟩
theorem okC_X4_columnAt : okC M_X4_columnAt cX4_columnAt 2 := ⟨eT_at 36 (by decide +kernel), eT_at 492 (by decide +kernel), ⟨by decide +kernel, by decide +kernel⟩, by decide +kernel⟩
theorem okS_X4_columnAt : okS M_X4_columnAt cX4_columnAt 2 := ⟨okC_X4_columnAt, eT_at 491 (by decide +kernel)⟩
theorem okC_X4_comb : okC M_X4_comb cX4_comb 3 := ⟨eT_at 36 (by decide +kernel), eT_at 287 (by decide +kernel), ⟨by decide +kernel, by decide +kernel⟩, by decide +kernel⟩
theorem okV_X4_comb : okV M_X4_comb cX4_comb 3 4 := ⟨okC_X4_comb, eT_at 285 (by decide +kernel), eT_at 286 (by decide +kernel), TX4, _, rfl⟩
theorem okC_X4_combOf : okC M_X4_combOf cX4_combOf 1 := ⟨eT_at 36 (by decide +kernel), eT_at 295 (by decide +kernel), ⟨by decide +kernel, by decide +kernel⟩, by decide +kernel⟩
theorem okV_X4_combOf : okV M_X4_combOf cX4_combOf 1 4 := ⟨okC_X4_combOf, eT_at 294 (by decide +kernel), eT_at 2 (by decide +kernel), TX4, _, rfl⟩
theorem okC_X4_copy : okC M_X4_copy cX4_copy 2 := ⟨eT_at 36 (by decide +kernel), eT_at 256 (by decide +kernel), ⟨by decide +kernel, by decide +kernel⟩, by decide +kernel⟩
theorem okV_X4_copy : okV M_X4_copy cX4_copy 2 4 := ⟨okC_X4_copy, eT_at 254 (by decide +kernel), eT_at 255 (by decide +kernel), TX4, _, rfl⟩
theorem okC_X4_count : okC M_X4_count cX4_count 1 := ⟨eT_at 36 (by decide +kernel), eT_at 524 (by decide +kernel), ⟨by decide +kernel, by decide +kernel⟩, by decide +kernel⟩
theorem okV_X4_count : okV M_X4_count cX4_count 1 4 := ⟨okC_X4_count, eT_at 522 (by decide +kernel), eT_at 523 (by decide +kernel), TX4, _, rfl⟩
theorem okC_X4_counts : okC M_X4_counts cX4_counts 3 := ⟨eT_at 36 (by decide +kernel), eT_at 366 (by decide +kernel), ⟨by decide +kernel, by decide +kernel⟩, by decide +kernel⟩
theorem okV_X4_counts : okV M_X4_counts cX4_counts 3 4 := ⟨okC_X4_counts, eT_at 365 (by decide +kernel), eT_at 7 (by decide +kernel), TX4, _, rfl⟩
theorem okC_X4_crossSum : okC M_X4_crossSum cX4_crossSum 3 := ⟨eT_at 36 (by decide +kernel), eT_at 504 (by decide +kernel), ⟨by decide +kernel, by decide +kernel⟩, by decide +kernel⟩
theorem okS_X4_crossSum : okS M_X4_crossSum cX4_crossSum 3 := ⟨okC_X4_crossSum, eT_at 503 (by decide +kernel)⟩
theorem okC_X4_digest : okC M_X4_digest cX4_digest 0 := ⟨eT_at 36 (by decide +kernel), eT_at 536 (by decide +kernel), ⟨by decide +kernel, by decide +kernel⟩, by decide +kernel⟩
theorem okV_X4_digest : okV M_X4_digest cX4_digest 0 4 := ⟨okC_X4_digest, eT_at 534 (by decide +kernel), eT_at 535 (by decide +kernel), TX4, _, rfl⟩
theorem okC_X4_digestComb : okC M_X4_digestComb cX4_digestComb 2 := ⟨eT_at 36 (by decide +kernel), eT_at 547 (by decide +kernel), ⟨by decide +kernel, by decide +kernel⟩, by decide +kernel⟩
theorem okS_X4_digestComb : okS M_X4_digestComb cX4_digestComb 2 := ⟨okC_X4_digestComb, eT_at 546 (by decide +kernel)⟩
theorem okC_X4_digestPlate : okC M_X4_digestPlate cX4_digestPlate 2 := ⟨eT_at 36 (by decide +kernel), eT_at 540 (by decide +kernel), ⟨by decide +kernel, by decide +kernel⟩, by decide +kernel⟩
theorem okS_X4_digestPlate : okS M_X4_digestPlate cX4_digestPlate 2 := ⟨okC_X4_digestPlate, eT_at 539 (by decide +kernel)⟩
theorem okC_X4_draw : okC M_X4_draw cX4_draw 4 := ⟨eT_at 36 (by decide +kernel), eT_at 350 (by decide +kernel), ⟨by decide +kernel, by decide +kernel⟩, by decide +kernel⟩
theorem okV_X4_draw : okV M_X4_draw cX4_draw 4 4 := ⟨okC_X4_draw, eT_at 348 (by decide +kernel), eT_at 349 (by decide +kernel), TX4, _, rfl⟩
theorem okC_X4_drawnNumber : okC M_X4_drawnNumber cX4_drawnNumber 5 := ⟨eT_at 36 (by decide +kernel), eT_at 354 (by decide +kernel), ⟨by decide +kernel, by decide +kernel⟩, by decide +kernel⟩
theorem okV_X4_drawnNumber : okV M_X4_drawnNumber cX4_drawnNumber 5 4 := ⟨okC_X4_drawnNumber, eT_at 353 (by decide +kernel), eT_at 5 (by decide +kernel), TX4, _, rfl⟩
theorem okC_X4_fact : okC M_X4_fact cX4_fact 2 := ⟨eT_at 36 (by decide +kernel), eT_at 298 (by decide +kernel), ⟨by decide +kernel, by decide +kernel⟩, by decide +kernel⟩
theorem okS_X4_fact : okS M_X4_fact cX4_fact 2 := ⟨okC_X4_fact, eT_at 297 (by decide +kernel)⟩
theorem okC_X4_findPlaces : okC M_X4_findPlaces cX4_findPlaces 2 := ⟨eT_at 36 (by decide +kernel), eT_at 406 (by decide +kernel), ⟨by decide +kernel, by decide +kernel⟩, by decide +kernel⟩
theorem okV_X4_findPlaces : okV M_X4_findPlaces cX4_findPlaces 2 4 := ⟨okC_X4_findPlaces, eT_at 405 (by decide +kernel), eT_at 9 (by decide +kernel), TX4, _, rfl⟩
theorem okC_X4_init : okC M_X4_init cX4_init 0 := ⟨eT_at 36 (by decide +kernel), eT_at 48 (by decide +kernel), ⟨by decide +kernel, by decide +kernel⟩, by decide +kernel⟩
theorem okC_X4_isBad : okC M_X4_isBad cX4_isBad 2 := ⟨eT_at 36 (by decide +kernel), eT_at 335 (by decide +kernel), ⟨by decide +kernel, by decide +kernel⟩, by decide +kernel⟩
theorem okV_X4_isBad : okV M_X4_isBad cX4_isBad 2 4 := ⟨okC_X4_isBad, eT_at 334 (by decide +kernel), eT_at 4 (by decide +kernel), TX4, _, rfl⟩
theorem okC_X4_isCell : okC M_X4_isCell cX4_isCell 2 := ⟨eT_at 36 (by decide +kernel), eT_at 279 (by decide +kernel), ⟨by decide +kernel, by decide +kernel⟩, by decide +kernel⟩
theorem okS_X4_isCell : okS M_X4_isCell cX4_isCell 2 := ⟨okC_X4_isCell, eT_at 278 (by decide +kernel)⟩
theorem okC_X4_isLane : okC M_X4_isLane cX4_isLane 1 := ⟨eT_at 36 (by decide +kernel), eT_at 225 (by decide +kernel), ⟨by decide +kernel, by decide +kernel⟩, by decide +kernel⟩
theorem okS_X4_isLane : okS M_X4_isLane cX4_isLane 1 := ⟨okC_X4_isLane, eT_at 224 (by decide +kernel)⟩
theorem okC_X4_join : okC M_X4_join cX4_join 3 := ⟨eT_at 36 (by decide +kernel), eT_at 481 (by decide +kernel), ⟨by decide +kernel, by decide +kernel⟩, by decide +kernel⟩
theorem okV_X4_join : okV M_X4_join cX4_join 3 4 := ⟨okC_X4_join, eT_at 479 (by decide +kernel), eT_at 480 (by decide +kernel), TX4, _, rfl⟩
theorem okC_X4_joinAt : okC M_X4_joinAt cX4_joinAt 2 := ⟨eT_at 36 (by decide +kernel), eT_at 489 (by decide +kernel), ⟨by decide +kernel, by decide +kernel⟩, by decide +kernel⟩
theorem okV_X4_joinAt : okV M_X4_joinAt cX4_joinAt 2 4 := ⟨okC_X4_joinAt, eT_at 488 (by decide +kernel), eT_at 14 (by decide +kernel), TX4, _, rfl⟩
theorem okC_X4_joined : okC M_X4_joined cX4_joined 1 := ⟨eT_at 36 (by decide +kernel), eT_at 496 (by decide +kernel), ⟨by decide +kernel, by decide +kernel⟩, by decide +kernel⟩
theorem okV_X4_joined : okV M_X4_joined cX4_joined 1 4 := ⟨okC_X4_joined, eT_at 494 (by decide +kernel), eT_at 495 (by decide +kernel), TX4, _, rfl⟩
theorem okC_X4_law : okC M_X4_law cX4_law 3 := ⟨eT_at 36 (by decide +kernel), eT_at 468 (by decide +kernel), ⟨by decide +kernel, by decide +kernel⟩, by decide +kernel⟩
theorem okV_X4_law : okV M_X4_law cX4_law 3 4 := ⟨okC_X4_law, eT_at 466 (by decide +kernel), eT_at 467 (by decide +kernel), TX4, _, rfl⟩
theorem okC_X4_lawCount : okC M_X4_lawCount cX4_lawCount 0 := ⟨eT_at 36 (by decide +kernel), eT_at 485 (by decide +kernel), ⟨by decide +kernel, by decide +kernel⟩, by decide +kernel⟩
theorem okV_X4_lawCount : okV M_X4_lawCount cX4_lawCount 0 4 := ⟨okC_X4_lawCount, eT_at 484 (by decide +kernel), eT_at 13 (by decide +kernel), TX4, _, rfl⟩
theorem okC_X4_less : okC M_X4_less cX4_less 2 := ⟨eT_at 36 (by decide +kernel), eT_at 268 (by decide +kernel), ⟨by decide +kernel, by decide +kernel⟩, by decide +kernel⟩
theorem okV_X4_less : okV M_X4_less cX4_less 2 4 := ⟨okC_X4_less, eT_at 266 (by decide +kernel), eT_at 267 (by decide +kernel), TX4, _, rfl⟩
theorem okC_X4_line : okC M_X4_line cX4_line 1 := ⟨eT_at 36 (by decide +kernel), eT_at 425 (by decide +kernel), ⟨by decide +kernel, by decide +kernel⟩, by decide +kernel⟩
theorem okV_X4_line : okV M_X4_line cX4_line 1 4 := ⟨okC_X4_line, eT_at 423 (by decide +kernel), eT_at 424 (by decide +kernel), TX4, _, rfl⟩
theorem okC_X4_look : okC M_X4_look cX4_look 3 := ⟨eT_at 36 (by decide +kernel), eT_at 283 (by decide +kernel), ⟨by decide +kernel, by decide +kernel⟩, by decide +kernel⟩
theorem okV_X4_look : okV M_X4_look cX4_look 3 4 := ⟨okC_X4_look, eT_at 281 (by decide +kernel), eT_at 282 (by decide +kernel), TX4, _, rfl⟩
theorem okC_X4_lose : okC M_X4_lose cX4_lose 1 := ⟨eT_at 36 (by decide +kernel), eT_at 272 (by decide +kernel), ⟨by decide +kernel, by decide +kernel⟩, by decide +kernel⟩
theorem okV_X4_lose : okV M_X4_lose cX4_lose 1 4 := ⟨okC_X4_lose, eT_at 270 (by decide +kernel), eT_at 271 (by decide +kernel), TX4, _, rfl⟩
theorem okC_X4_match : okC M_X4_match cX4_match 3 := ⟨eT_at 36 (by decide +kernel), eT_at 434 (by decide +kernel), ⟨by decide +kernel, by decide +kernel⟩, by decide +kernel⟩
theorem okV_X4_match : okV M_X4_match cX4_match 3 4 := ⟨okC_X4_match, eT_at 432 (by decide +kernel), eT_at 433 (by decide +kernel), TX4, _, rfl⟩
theorem okC_X4_middleOfLight : okC M_X4_middleOfLight cX4_middleOfLight 3 := ⟨eT_at 36 (by decide +kernel), eT_at 331 (by decide +kernel), ⟨by decide +kernel, by decide +kernel⟩, by decide +kernel⟩
theorem okV_X4_middleOfLight : okV M_X4_middleOfLight cX4_middleOfLight 3 4 := ⟨okC_X4_middleOfLight, eT_at 330 (by decide +kernel), eT_at 3 (by decide +kernel), TX4, _, rfl⟩
theorem okC_X4_mix : okC M_X4_mix cX4_mix 2 := ⟨eT_at 36 (by decide +kernel), eT_at 543 (by decide +kernel), ⟨by decide +kernel, by decide +kernel⟩, by decide +kernel⟩
theorem okS_X4_mix : okS M_X4_mix cX4_mix 2 := ⟨okC_X4_mix, eT_at 542 (by decide +kernel)⟩
theorem okC_X4_nearLine : okC M_X4_nearLine cX4_nearLine 2 := ⟨eT_at 36 (by decide +kernel), eT_at 453 (by decide +kernel), ⟨by decide +kernel, by decide +kernel⟩, by decide +kernel⟩
theorem okV_X4_nearLine : okV M_X4_nearLine cX4_nearLine 2 4 := ⟨okC_X4_nearLine, eT_at 452 (by decide +kernel), eT_at 12 (by decide +kernel), TX4, _, rfl⟩
theorem okC_X4_number : okC M_X4_number cX4_number 2 := ⟨eT_at 36 (by decide +kernel), eT_at 387 (by decide +kernel), ⟨by decide +kernel, by decide +kernel⟩, by decide +kernel⟩
theorem okV_X4_number : okV M_X4_number cX4_number 2 4 := ⟨okC_X4_number, eT_at 385 (by decide +kernel), eT_at 386 (by decide +kernel), TX4, _, rfl⟩
theorem okC_X4_offer : okC M_X4_offer cX4_offer 4 := ⟨eT_at 36 (by decide +kernel), eT_at 446 (by decide +kernel), ⟨by decide +kernel, by decide +kernel⟩, by decide +kernel⟩
theorem okV_X4_offer : okV M_X4_offer cX4_offer 4 4 := ⟨okC_X4_offer, eT_at 445 (by decide +kernel), eT_at 11 (by decide +kernel), TX4, _, rfl⟩
theorem okC_X4_peak : okC M_X4_peak cX4_peak 3 := ⟨eT_at 36 (by decide +kernel), eT_at 421 (by decide +kernel), ⟨by decide +kernel, by decide +kernel⟩, by decide +kernel⟩
theorem okV_X4_peak : okV M_X4_peak cX4_peak 3 4 := ⟨okC_X4_peak, eT_at 419 (by decide +kernel), eT_at 420 (by decide +kernel), TX4, _, rfl⟩
theorem okC_X4_peaks : okC M_X4_peaks cX4_peaks 2 := ⟨eT_at 36 (by decide +kernel), eT_at 402 (by decide +kernel), ⟨by decide +kernel, by decide +kernel⟩, by decide +kernel⟩
theorem okV_X4_peaks : okV M_X4_peaks cX4_peaks 2 4 := ⟨okC_X4_peaks, eT_at 400 (by decide +kernel), eT_at 401 (by decide +kernel), TX4, _, rfl⟩
theorem okC_X4_plate : okC M_X4_plate cX4_plate 4 := ⟨eT_at 36 (by decide +kernel), eT_at 215 (by decide +kernel), ⟨by decide +kernel, by decide +kernel⟩, by decide +kernel⟩
theorem okV_X4_plate : okV M_X4_plate cX4_plate 4 4 := ⟨okC_X4_plate, eT_at 213 (by decide +kernel), eT_at 214 (by decide +kernel), TX4, _, rfl⟩
theorem okC_X4_plateCount : okC M_X4_plateCount cX4_plateCount 0 := ⟨eT_at 36 (by decide +kernel), eT_at 528 (by decide +kernel), ⟨by decide +kernel, by decide +kernel⟩, by decide +kernel⟩
theorem okV_X4_plateCount : okV M_X4_plateCount cX4_plateCount 0 4 := ⟨okC_X4_plateCount, eT_at 527 (by decide +kernel), eT_at 15 (by decide +kernel), TX4, _, rfl⟩
theorem okC_X4_plateOf : okC M_X4_plateOf cX4_plateOf 1 := ⟨eT_at 36 (by decide +kernel), eT_at 219 (by decide +kernel), ⟨by decide +kernel, by decide +kernel⟩, by decide +kernel⟩
theorem okV_X4_plateOf : okV M_X4_plateOf cX4_plateOf 1 4 := ⟨okC_X4_plateOf, eT_at 218 (by decide +kernel), eT_at 0 (by decide +kernel), TX4, _, rfl⟩
theorem okC_X4_put : okC M_X4_put cX4_put 5 := ⟨eT_at 36 (by decide +kernel), eT_at 240 (by decide +kernel), ⟨by decide +kernel, by decide +kernel⟩, by decide +kernel⟩
theorem okV_X4_put : okV M_X4_put cX4_put 5 4 := ⟨okC_X4_put, eT_at 238 (by decide +kernel), eT_at 239 (by decide +kernel), TX4, _, rfl⟩
theorem okC_X4_rayRow : okC M_X4_rayRow cX4_rayRow 5 := ⟨eT_at 36 (by decide +kernel), eT_at 374 (by decide +kernel), ⟨by decide +kernel, by decide +kernel⟩, by decide +kernel⟩
theorem okV_X4_rayRow : okV M_X4_rayRow cX4_rayRow 5 4 := ⟨okC_X4_rayRow, eT_at 373 (by decide +kernel), eT_at 8 (by decide +kernel), TX4, _, rfl⟩
theorem okC_X4_seen : okC M_X4_seen cX4_seen 0 := ⟨eT_at 36 (by decide +kernel), eT_at 512 (by decide +kernel), ⟨by decide +kernel, by decide +kernel⟩, by decide +kernel⟩
theorem okV_X4_seen : okV M_X4_seen cX4_seen 0 4 := ⟨okC_X4_seen, eT_at 510 (by decide +kernel), eT_at 511 (by decide +kernel), TX4, _, rfl⟩
theorem okC_X4_shift : okC M_X4_shift cX4_shift 3 := ⟨eT_at 36 (by decide +kernel), eT_at 500 (by decide +kernel), ⟨by decide +kernel, by decide +kernel⟩, by decide +kernel⟩
theorem okV_X4_shift : okV M_X4_shift cX4_shift 3 4 := ⟨okC_X4_shift, eT_at 498 (by decide +kernel), eT_at 499 (by decide +kernel), TX4, _, rfl⟩
theorem okC_X4_sumColumn : okC M_X4_sumColumn cX4_sumColumn 5 := ⟨eT_at 36 (by decide +kernel), eT_at 358 (by decide +kernel), ⟨by decide +kernel, by decide +kernel⟩, by decide +kernel⟩
theorem okV_X4_sumColumn : okV M_X4_sumColumn cX4_sumColumn 5 4 := ⟨okC_X4_sumColumn, eT_at 357 (by decide +kernel), eT_at 6 (by decide +kernel), TX4, _, rfl⟩
theorem okC_X4_told : okC M_X4_told cX4_told 2 := ⟨eT_at 36 (by decide +kernel), eT_at 291 (by decide +kernel), ⟨by decide +kernel, by decide +kernel⟩, by decide +kernel⟩
theorem okV_X4_told : okV M_X4_told cX4_told 2 4 := ⟨okC_X4_told, eT_at 289 (by decide +kernel), eT_at 290 (by decide +kernel), TX4, _, rfl⟩
theorem okC_X4_trace : okC M_X4_trace cX4_trace 2 := ⟨eT_at 36 (by decide +kernel), eT_at 327 (by decide +kernel), ⟨by decide +kernel, by decide +kernel⟩, by decide +kernel⟩
theorem okV_X4_trace : okV M_X4_trace cX4_trace 2 4 := ⟨okC_X4_trace, eT_at 325 (by decide +kernel), eT_at 326 (by decide +kernel), TX4, _, rfl⟩
theorem okC_X4_tryPair : okC M_X4_tryPair cX4_tryPair 4 := ⟨eT_at 36 (by decide +kernel), eT_at 438 (by decide +kernel), ⟨by decide +kernel, by decide +kernel⟩, by decide +kernel⟩
theorem okV_X4_tryPair : okV M_X4_tryPair cX4_tryPair 4 4 := ⟨okC_X4_tryPair, eT_at 437 (by decide +kernel), eT_at 10 (by decide +kernel), TX4, _, rfl⟩
theorem okC_X4_wave : okC M_X4_wave cX4_wave 2 := ⟨eT_at 36 (by decide +kernel), eT_at 474 (by decide +kernel), ⟨by decide +kernel, by decide +kernel⟩, by decide +kernel⟩
theorem okV_X4_wave : okV M_X4_wave cX4_wave 2 4 := ⟨okC_X4_wave, eT_at 472 (by decide +kernel), eT_at 473 (by decide +kernel), TX4, _, rfl⟩
theorem okC_X4_waveAt : okC M_X4_waveAt cX4_waveAt 3 := ⟨eT_at 36 (by decide +kernel), eT_at 449 (by decide +kernel), ⟨by decide +kernel, by decide +kernel⟩, by decide +kernel⟩
theorem okS_X4_waveAt : okS M_X4_waveAt cX4_waveAt 3 := ⟨okC_X4_waveAt, eT_at 448 (by decide +kernel)⟩
theorem okC_X4_within : okC M_X4_within cX4_within 3 := ⟨eT_at 36 (by decide +kernel), eT_at 222 (by decide +kernel), ⟨by decide +kernel, by decide +kernel⟩, by decide +kernel⟩
theorem okS_X4_within : okS M_X4_within cX4_within 3 := ⟨okC_X4_within, eT_at 221 (by decide +kernel)⟩
theorem okC_X5_bad : okC M_X5_bad cX5_bad 3 := ⟨eT_at 41 (by decide +kernel), eT_at 694 (by decide +kernel), ⟨by decide +kernel, by decide +kernel⟩, by decide +kernel⟩
theorem okV_X5_bad : okV M_X5_bad cX5_bad 3 5 := ⟨okC_X5_bad, eT_at 692 (by decide +kernel), eT_at 693 (by decide +kernel), TX5, _, rfl⟩
theorem okC_X5_band : okC M_X5_band cX5_band 4 := ⟨eT_at 41 (by decide +kernel), eT_at 717 (by decide +kernel), ⟨by decide +kernel, by decide +kernel⟩, by decide +kernel⟩
theorem okV_X5_band : okV M_X5_band cX5_band 4 5 := ⟨okC_X5_band, eT_at 715 (by decide +kernel), eT_at 716 (by decide +kernel), TX5, _, rfl⟩
theorem okC_X5_best : okC M_X5_best cX5_best 2 := ⟨eT_at 41 (by decide +kernel), eT_at 852 (by decide +kernel), ⟨by decide +kernel, by decide +kernel⟩, by decide +kernel⟩
theorem okV_X5_best : okV M_X5_best cX5_best 2 5 := ⟨okC_X5_best, eT_at 850 (by decide +kernel), eT_at 851 (by decide +kernel), TX5, _, rfl⟩
theorem okC_X5_bounded : okC M_X5_bounded cX5_bounded 1 := ⟨eT_at 41 (by decide +kernel), eT_at 744 (by decide +kernel), ⟨by decide +kernel, by decide +kernel⟩, by decide +kernel⟩
theorem okV_X5_bounded : okV M_X5_bounded cX5_bounded 1 5 := ⟨okC_X5_bounded, eT_at 743 (by decide +kernel), eT_at 25 (by decide +kernel), TX5, _, rfl⟩
theorem okC_X5_cast : okC M_X5_cast cX5_cast 2 := ⟨eT_at 41 (by decide +kernel), eT_at 674 (by decide +kernel), ⟨by decide +kernel, by decide +kernel⟩, by decide +kernel⟩
theorem okS_X5_cast : okS M_X5_cast cX5_cast 2 := ⟨okC_X5_cast, eT_at 673 (by decide +kernel)⟩
theorem okC_X5_cause : okC M_X5_cause cX5_cause 0 := ⟨eT_at 41 (by decide +kernel), eT_at 860 (by decide +kernel), ⟨by decide +kernel, by decide +kernel⟩, by decide +kernel⟩
theorem okV_X5_cause : okV M_X5_cause cX5_cause 0 5 := ⟨okC_X5_cause, eT_at 858 (by decide +kernel), eT_at 859 (by decide +kernel), TX5, _, rfl⟩
theorem okC_X5_causes : okC M_X5_causes cX5_causes 1 := ⟨eT_at 41 (by decide +kernel), eT_at 864 (by decide +kernel), ⟨by decide +kernel, by decide +kernel⟩, by decide +kernel⟩
theorem okV_X5_causes : okV M_X5_causes cX5_causes 1 5 := ⟨okC_X5_causes, eT_at 862 (by decide +kernel), eT_at 863 (by decide +kernel), TX5, _, rfl⟩
theorem okC_X5_clear : okC M_X5_clear cX5_clear 0 := ⟨eT_at 41 (by decide +kernel), eT_at 792 (by decide +kernel), ⟨by decide +kernel, by decide +kernel⟩, by decide +kernel⟩
theorem okV_X5_clear : okV M_X5_clear cX5_clear 0 5 := ⟨okC_X5_clear, eT_at 790 (by decide +kernel), eT_at 791 (by decide +kernel), TX5, _, rfl⟩
theorem okC_X5_columnFor : okC M_X5_columnFor cX5_columnFor 2 := ⟨eT_at 41 (by decide +kernel), eT_at 834 (by decide +kernel), ⟨by decide +kernel, by decide +kernel⟩, by decide +kernel⟩
theorem okV_X5_columnFor : okV M_X5_columnFor cX5_columnFor 2 5 := ⟨okC_X5_columnFor, eT_at 833 (by decide +kernel), eT_at 32 (by decide +kernel), TX5, _, rfl⟩
theorem okC_X5_comb : okC M_X5_comb cX5_comb 3 := ⟨eT_at 41 (by decide +kernel), eT_at 703 (by decide +kernel), ⟨by decide +kernel, by decide +kernel⟩, by decide +kernel⟩
theorem okV_X5_comb : okV M_X5_comb cX5_comb 3 5 := ⟨okC_X5_comb, eT_at 701 (by decide +kernel), eT_at 702 (by decide +kernel), TX5, _, rfl⟩
theorem okC_X5_copy : okC M_X5_copy cX5_copy 2 := ⟨eT_at 41 (by decide +kernel), eT_at 678 (by decide +kernel), ⟨by decide +kernel, by decide +kernel⟩, by decide +kernel⟩
theorem okV_X5_copy : okV M_X5_copy cX5_copy 2 5 := ⟨okC_X5_copy, eT_at 676 (by decide +kernel), eT_at 677 (by decide +kernel), TX5, _, rfl⟩
theorem okC_X5_count : okC M_X5_count cX5_count 1 := ⟨eT_at 41 (by decide +kernel), eT_at 830 (by decide +kernel), ⟨by decide +kernel, by decide +kernel⟩, by decide +kernel⟩
theorem okV_X5_count : okV M_X5_count cX5_count 1 5 := ⟨okC_X5_count, eT_at 828 (by decide +kernel), eT_at 829 (by decide +kernel), TX5, _, rfl⟩
theorem okC_X5_digest : okC M_X5_digest cX5_digest 0 := ⟨eT_at 41 (by decide +kernel), eT_at 869 (by decide +kernel), ⟨by decide +kernel, by decide +kernel⟩, by decide +kernel⟩
theorem okV_X5_digest : okV M_X5_digest cX5_digest 0 5 := ⟨okC_X5_digest, eT_at 867 (by decide +kernel), eT_at 868 (by decide +kernel), TX5, _, rfl⟩
theorem okC_X5_draw : okC M_X5_draw cX5_draw 4 := ⟨eT_at 41 (by decide +kernel), eT_at 751 (by decide +kernel), ⟨by decide +kernel, by decide +kernel⟩, by decide +kernel⟩
theorem okV_X5_draw : okV M_X5_draw cX5_draw 4 5 := ⟨okC_X5_draw, eT_at 749 (by decide +kernel), eT_at 750 (by decide +kernel), TX5, _, rfl⟩
theorem okC_X5_drawn : okC M_X5_drawn cX5_drawn 5 := ⟨eT_at 41 (by decide +kernel), eT_at 756 (by decide +kernel), ⟨by decide +kernel, by decide +kernel⟩, by decide +kernel⟩
theorem okV_X5_drawn : okV M_X5_drawn cX5_drawn 5 5 := ⟨okC_X5_drawn, eT_at 755 (by decide +kernel), eT_at 26 (by decide +kernel), TX5, _, rfl⟩
theorem okC_X5_find : okC M_X5_find cX5_find 2 := ⟨eT_at 41 (by decide +kernel), eT_at 778 (by decide +kernel), ⟨by decide +kernel, by decide +kernel⟩, by decide +kernel⟩
theorem okV_X5_find : okV M_X5_find cX5_find 2 5 := ⟨okC_X5_find, eT_at 777 (by decide +kernel), eT_at 29 (by decide +kernel), TX5, _, rfl⟩
theorem okC_X5_firstRow : okC M_X5_firstRow cX5_firstRow 3 := ⟨eT_at 41 (by decide +kernel), eT_at 721 (by decide +kernel), ⟨by decide +kernel, by decide +kernel⟩, by decide +kernel⟩
theorem okV_X5_firstRow : okV M_X5_firstRow cX5_firstRow 3 5 := ⟨okC_X5_firstRow, eT_at 720 (by decide +kernel), eT_at 21 (by decide +kernel), TX5, _, rfl⟩
theorem okC_X5_fitting : okC M_X5_fitting cX5_fitting 3 := ⟨eT_at 41 (by decide +kernel), eT_at 806 (by decide +kernel), ⟨by decide +kernel, by decide +kernel⟩, by decide +kernel⟩
theorem okV_X5_fitting : okV M_X5_fitting cX5_fitting 3 5 := ⟨okC_X5_fitting, eT_at 805 (by decide +kernel), eT_at 31 (by decide +kernel), TX5, _, rfl⟩
theorem okC_X5_floor : okC M_X5_floor cX5_floor 2 := ⟨eT_at 41 (by decide +kernel), eT_at 728 (by decide +kernel), ⟨by decide +kernel, by decide +kernel⟩, by decide +kernel⟩
theorem okS_X5_floor : okS M_X5_floor cX5_floor 2 := ⟨okC_X5_floor, eT_at 727 (by decide +kernel)⟩
theorem okC_X5_in : okC M_X5_in cX5_in 3 := ⟨eT_at 41 (by decide +kernel), eT_at 655 (by decide +kernel), ⟨by decide +kernel, by decide +kernel⟩, by decide +kernel⟩
theorem okS_X5_in : okS M_X5_in cX5_in 3 := ⟨okC_X5_in, eT_at 654 (by decide +kernel)⟩
theorem okC_X5_init : okC M_X5_init cX5_init 0 := ⟨eT_at 41 (by decide +kernel), eT_at 552 (by decide +kernel), ⟨by decide +kernel, by decide +kernel⟩, by decide +kernel⟩
theorem okC_X5_isComb : okC M_X5_isComb cX5_isComb 1 := ⟨eT_at 41 (by decide +kernel), eT_at 713 (by decide +kernel), ⟨by decide +kernel, by decide +kernel⟩, by decide +kernel⟩
theorem okV_X5_isComb : okV M_X5_isComb cX5_isComb 1 5 := ⟨okC_X5_isComb, eT_at 712 (by decide +kernel), eT_at 20 (by decide +kernel), TX5, _, rfl⟩
theorem okC_X5_isLike : okC M_X5_isLike cX5_isLike 2 := ⟨eT_at 41 (by decide +kernel), eT_at 682 (by decide +kernel), ⟨by decide +kernel, by decide +kernel⟩, by decide +kernel⟩
theorem okV_X5_isLike : okV M_X5_isLike cX5_isLike 2 5 := ⟨okC_X5_isLike, eT_at 681 (by decide +kernel), eT_at 19 (by decide +kernel), TX5, _, rfl⟩
theorem okC_X5_isPlace : okC M_X5_isPlace cX5_isPlace 3 := ⟨eT_at 41 (by decide +kernel), eT_at 668 (by decide +kernel), ⟨by decide +kernel, by decide +kernel⟩, by decide +kernel⟩
theorem okV_X5_isPlace : okV M_X5_isPlace cX5_isPlace 3 5 := ⟨okC_X5_isPlace, eT_at 667 (by decide +kernel), eT_at 18 (by decide +kernel), TX5, _, rfl⟩
theorem okC_X5_isPlate : okC M_X5_isPlate cX5_isPlate 1 := ⟨eT_at 41 (by decide +kernel), eT_at 651 (by decide +kernel), ⟨by decide +kernel, by decide +kernel⟩, by decide +kernel⟩
theorem okS_X5_isPlate : okS M_X5_isPlate cX5_isPlate 1 := ⟨okC_X5_isPlate, eT_at 650 (by decide +kernel)⟩
theorem okC_X5_isUsed : okC M_X5_isUsed cX5_isUsed 3 := ⟨eT_at 41 (by decide +kernel), eT_at 764 (by decide +kernel), ⟨by decide +kernel, by decide +kernel⟩, by decide +kernel⟩
theorem okV_X5_isUsed : okV M_X5_isUsed cX5_isUsed 3 5 := ⟨okC_X5_isUsed, eT_at 763 (by decide +kernel), eT_at 28 (by decide +kernel), TX5, _, rfl⟩
theorem okC_X5_join : okC M_X5_join cX5_join 3 := ⟨eT_at 41 (by decide +kernel), eT_at 825 (by decide +kernel), ⟨by decide +kernel, by decide +kernel⟩, by decide +kernel⟩
theorem okV_X5_join : okV M_X5_join cX5_join 3 5 := ⟨okC_X5_join, eT_at 823 (by decide +kernel), eT_at 824 (by decide +kernel), TX5, _, rfl⟩
theorem okC_X5_joined : okC M_X5_joined cX5_joined 1 := ⟨eT_at 41 (by decide +kernel), eT_at 838 (by decide +kernel), ⟨by decide +kernel, by decide +kernel⟩, by decide +kernel⟩
theorem okV_X5_joined : okV M_X5_joined cX5_joined 1 5 := ⟨okC_X5_joined, eT_at 836 (by decide +kernel), eT_at 837 (by decide +kernel), TX5, _, rfl⟩
theorem okC_X5_lastRow : okC M_X5_lastRow cX5_lastRow 3 := ⟨eT_at 41 (by decide +kernel), eT_at 732 (by decide +kernel), ⟨by decide +kernel, by decide +kernel⟩, by decide +kernel⟩
theorem okV_X5_lastRow : okV M_X5_lastRow cX5_lastRow 3 5 := ⟨okC_X5_lastRow, eT_at 731 (by decide +kernel), eT_at 23 (by decide +kernel), TX5, _, rfl⟩
theorem okC_X5_law : okC M_X5_law cX5_law 3 := ⟨eT_at 41 (by decide +kernel), eT_at 813 (by decide +kernel), ⟨by decide +kernel, by decide +kernel⟩, by decide +kernel⟩
theorem okV_X5_law : okV M_X5_law cX5_law 3 5 := ⟨okC_X5_law, eT_at 811 (by decide +kernel), eT_at 812 (by decide +kernel), TX5, _, rfl⟩
theorem okC_X5_less : okC M_X5_less cX5_less 2 := ⟨eT_at 41 (by decide +kernel), eT_at 686 (by decide +kernel), ⟨by decide +kernel, by decide +kernel⟩, by decide +kernel⟩
theorem okV_X5_less : okV M_X5_less cX5_less 2 5 := ⟨okC_X5_less, eT_at 684 (by decide +kernel), eT_at 685 (by decide +kernel), TX5, _, rfl⟩
theorem okC_X5_lightAt : okC M_X5_lightAt cX5_lightAt 3 := ⟨eT_at 41 (by decide +kernel), eT_at 740 (by decide +kernel), ⟨by decide +kernel, by decide +kernel⟩, by decide +kernel⟩
theorem okV_X5_lightAt : okV M_X5_lightAt cX5_lightAt 3 5 := ⟨okC_X5_lightAt, eT_at 739 (by decide +kernel), eT_at 24 (by decide +kernel), TX5, _, rfl⟩
theorem okC_X5_line : okC M_X5_line cX5_line 1 := ⟨eT_at 41 (by decide +kernel), eT_at 787 (by decide +kernel), ⟨by decide +kernel, by decide +kernel⟩, by decide +kernel⟩
theorem okV_X5_line : okV M_X5_line cX5_line 1 5 := ⟨okC_X5_line, eT_at 785 (by decide +kernel), eT_at 786 (by decide +kernel), TX5, _, rfl⟩
theorem okC_X5_look : okC M_X5_look cX5_look 3 := ⟨eT_at 41 (by decide +kernel), eT_at 699 (by decide +kernel), ⟨by decide +kernel, by decide +kernel⟩, by decide +kernel⟩
theorem okV_X5_look : okV M_X5_look cX5_look 3 5 := ⟨okC_X5_look, eT_at 697 (by decide +kernel), eT_at 698 (by decide +kernel), TX5, _, rfl⟩
theorem okC_X5_lose : okC M_X5_lose cX5_lose 1 := ⟨eT_at 41 (by decide +kernel), eT_at 690 (by decide +kernel), ⟨by decide +kernel, by decide +kernel⟩, by decide +kernel⟩
theorem okV_X5_lose : okV M_X5_lose cX5_lose 1 5 := ⟨okC_X5_lose, eT_at 688 (by decide +kernel), eT_at 689 (by decide +kernel), TX5, _, rfl⟩
theorem okC_X5_match : okC M_X5_match cX5_match 3 := ⟨eT_at 41 (by decide +kernel), eT_at 796 (by decide +kernel), ⟨by decide +kernel, by decide +kernel⟩, by decide +kernel⟩
theorem okV_X5_match : okV M_X5_match cX5_match 3 5 := ⟨okC_X5_match, eT_at 794 (by decide +kernel), eT_at 795 (by decide +kernel), TX5, _, rfl⟩
theorem okC_X5_met : okC M_X5_met cX5_met 1 := ⟨eT_at 41 (by decide +kernel), eT_at 660 (by decide +kernel), ⟨by decide +kernel, by decide +kernel⟩, by decide +kernel⟩
theorem okV_X5_met : okV M_X5_met cX5_met 1 5 := ⟨okC_X5_met, eT_at 659 (by decide +kernel), eT_at 17 (by decide +kernel), TX5, _, rfl⟩
theorem okC_X5_middle : okC M_X5_middle cX5_middle 3 := ⟨eT_at 41 (by decide +kernel), eT_at 725 (by decide +kernel), ⟨by decide +kernel, by decide +kernel⟩, by decide +kernel⟩
theorem okV_X5_middle : okV M_X5_middle cX5_middle 3 5 := ⟨okC_X5_middle, eT_at 724 (by decide +kernel), eT_at 22 (by decide +kernel), TX5, _, rfl⟩
theorem okC_X5_mix : okC M_X5_mix cX5_mix 1 := ⟨eT_at 41 (by decide +kernel), eT_at 874 (by decide +kernel), ⟨by decide +kernel, by decide +kernel⟩, by decide +kernel⟩
theorem okV_X5_mix : okV M_X5_mix cX5_mix 1 5 := ⟨okC_X5_mix, eT_at 873 (by decide +kernel), eT_at 34 (by decide +kernel), TX5, _, rfl⟩
theorem okC_X5_number : okC M_X5_number cX5_number 2 := ⟨eT_at 41 (by decide +kernel), eT_at 768 (by decide +kernel), ⟨by decide +kernel, by decide +kernel⟩, by decide +kernel⟩
theorem okV_X5_number : okV M_X5_number cX5_number 2 5 := ⟨okC_X5_number, eT_at 766 (by decide +kernel), eT_at 767 (by decide +kernel), TX5, _, rfl⟩
theorem okC_X5_peak : okC M_X5_peak cX5_peak 3 := ⟨eT_at 41 (by decide +kernel), eT_at 783 (by decide +kernel), ⟨by decide +kernel, by decide +kernel⟩, by decide +kernel⟩
theorem okV_X5_peak : okV M_X5_peak cX5_peak 3 5 := ⟨okC_X5_peak, eT_at 781 (by decide +kernel), eT_at 782 (by decide +kernel), TX5, _, rfl⟩
theorem okC_X5_peaks : okC M_X5_peaks cX5_peaks 2 := ⟨eT_at 41 (by decide +kernel), eT_at 774 (by decide +kernel), ⟨by decide +kernel, by decide +kernel⟩, by decide +kernel⟩
theorem okV_X5_peaks : okV M_X5_peaks cX5_peaks 2 5 := ⟨okC_X5_peaks, eT_at 772 (by decide +kernel), eT_at 773 (by decide +kernel), TX5, _, rfl⟩
theorem okC_X5_place : okC M_X5_place cX5_place 3 := ⟨eT_at 41 (by decide +kernel), eT_at 671 (by decide +kernel), ⟨by decide +kernel, by decide +kernel⟩, by decide +kernel⟩
theorem okS_X5_place : okS M_X5_place cX5_place 3 := ⟨okC_X5_place, eT_at 670 (by decide +kernel)⟩
theorem okC_X5_plate : okC M_X5_plate cX5_plate 4 := ⟨eT_at 41 (by decide +kernel), eT_at 648 (by decide +kernel), ⟨by decide +kernel, by decide +kernel⟩, by decide +kernel⟩
theorem okV_X5_plate : okV M_X5_plate cX5_plate 4 5 := ⟨okC_X5_plate, eT_at 646 (by decide +kernel), eT_at 647 (by decide +kernel), TX5, _, rfl⟩
theorem okC_X5_put : okC M_X5_put cX5_put 5 := ⟨eT_at 41 (by decide +kernel), eT_at 664 (by decide +kernel), ⟨by decide +kernel, by decide +kernel⟩, by decide +kernel⟩
theorem okV_X5_put : okV M_X5_put cX5_put 5 5 := ⟨okC_X5_put, eT_at 662 (by decide +kernel), eT_at 663 (by decide +kernel), TX5, _, rfl⟩
theorem okC_X5_ray : okC M_X5_ray cX5_ray 5 := ⟨eT_at 41 (by decide +kernel), eT_at 760 (by decide +kernel), ⟨by decide +kernel, by decide +kernel⟩, by decide +kernel⟩
theorem okV_X5_ray : okV M_X5_ray cX5_ray 5 5 := ⟨okC_X5_ray, eT_at 759 (by decide +kernel), eT_at 27 (by decide +kernel), TX5, _, rfl⟩
theorem okC_X5_seen : okC M_X5_seen cX5_seen 0 := ⟨eT_at 41 (by decide +kernel), eT_at 856 (by decide +kernel), ⟨by decide +kernel, by decide +kernel⟩, by decide +kernel⟩
theorem okV_X5_seen : okV M_X5_seen cX5_seen 0 5 := ⟨okC_X5_seen, eT_at 854 (by decide +kernel), eT_at 855 (by decide +kernel), TX5, _, rfl⟩
theorem okC_X5_shift : okC M_X5_shift cX5_shift 3 := ⟨eT_at 41 (by decide +kernel), eT_at 842 (by decide +kernel), ⟨by decide +kernel, by decide +kernel⟩, by decide +kernel⟩
theorem okV_X5_shift : okV M_X5_shift cX5_shift 3 5 := ⟨okC_X5_shift, eT_at 840 (by decide +kernel), eT_at 841 (by decide +kernel), TX5, _, rfl⟩
theorem okC_X5_shiftOf : okC M_X5_shiftOf cX5_shiftOf 3 := ⟨eT_at 41 (by decide +kernel), eT_at 847 (by decide +kernel), ⟨by decide +kernel, by decide +kernel⟩, by decide +kernel⟩
theorem okV_X5_shiftOf : okV M_X5_shiftOf cX5_shiftOf 3 5 := ⟨okC_X5_shiftOf, eT_at 846 (by decide +kernel), eT_at 33 (by decide +kernel), TX5, _, rfl⟩
theorem okC_X5_told : okC M_X5_told cX5_told 2 := ⟨eT_at 41 (by decide +kernel), eT_at 709 (by decide +kernel), ⟨by decide +kernel, by decide +kernel⟩, by decide +kernel⟩
theorem okV_X5_told : okV M_X5_told cX5_told 2 5 := ⟨okC_X5_told, eT_at 707 (by decide +kernel), eT_at 708 (by decide +kernel), TX5, _, rfl⟩
theorem okC_X5_trace : okC M_X5_trace cX5_trace 2 := ⟨eT_at 41 (by decide +kernel), eT_at 736 (by decide +kernel), ⟨by decide +kernel, by decide +kernel⟩, by decide +kernel⟩
theorem okV_X5_trace : okV M_X5_trace cX5_trace 2 5 := ⟨okC_X5_trace, eT_at 734 (by decide +kernel), eT_at 735 (by decide +kernel), TX5, _, rfl⟩
theorem okC_X5_tryLaw : okC M_X5_tryLaw cX5_tryLaw 5 := ⟨eT_at 41 (by decide +kernel), eT_at 801 (by decide +kernel), ⟨by decide +kernel, by decide +kernel⟩, by decide +kernel⟩
theorem okV_X5_tryLaw : okV M_X5_tryLaw cX5_tryLaw 5 5 := ⟨okC_X5_tryLaw, eT_at 800 (by decide +kernel), eT_at 30 (by decide +kernel), TX5, _, rfl⟩
theorem okC_X5_wave : okC M_X5_wave cX5_wave 2 := ⟨eT_at 41 (by decide +kernel), eT_at 817 (by decide +kernel), ⟨by decide +kernel, by decide +kernel⟩, by decide +kernel⟩
theorem okV_X5_wave : okV M_X5_wave cX5_wave 2 5 := ⟨okC_X5_wave, eT_at 815 (by decide +kernel), eT_at 816 (by decide +kernel), TX5, _, rfl⟩
theorem okC_X5_waveOf : okC M_X5_waveOf cX5_waveOf 3 := ⟨eT_at 41 (by decide +kernel), eT_at 809 (by decide +kernel), ⟨by decide +kernel, by decide +kernel⟩, by decide +kernel⟩
theorem okS_X5_waveOf : okS M_X5_waveOf cX5_waveOf 3 := ⟨okC_X5_waveOf, eT_at 808 (by decide +kernel)⟩
theorem inTX0 : ∀ w ∈ u_ws RX0 TX0 6, w ∈ eT := by decide +kernel
theorem inTX1 : ∀ w ∈ u_ws RX1 TX1 4, w ∈ eT := by decide +kernel
theorem inTX2 : ∀ w ∈ u_ws RX2 TX2 5, w ∈ eT := by decide +kernel
theorem inTX3 : ∀ w ∈ u_ws RX3 TX3 5, w ∈ eT := by decide +kernel
theorem inTX4 : ∀ w ∈ u_ws RX4 TX4 15, w ∈ eT := by decide +kernel
theorem inTX5 : ∀ w ∈ u_ws RX5 TX5 30, w ∈ eT := by decide +kernel
theorem flX4_11 : Cond.fieldLink RX4 11 RX4 (TX4 0).2.1 (TX4 0).2.2.1 ∈ eT := eT_at 166 (by decide +kernel)
theorem fgX4_11 : okF RX4 11 4 0 := ⟨RX4, TX4, 15, rfl, by decide, inTX4, flX4_11, rfl⟩
theorem flX4_15 : Cond.fieldLink RX4 15 RX4 (TX4 1).2.1 (TX4 1).2.2.1 ∈ eT := eT_at 167 (by decide +kernel)
theorem fgX4_15 : okF RX4 15 4 1 := ⟨RX4, TX4, 15, rfl, by decide, inTX4, flX4_15, rfl⟩
theorem flX4_21 : Cond.fieldLink RX4 21 RX4 (TX4 2).2.1 (TX4 2).2.2.1 ∈ eT := eT_at 168 (by decide +kernel)
theorem fgX4_21 : okF RX4 21 4 2 := ⟨RX4, TX4, 15, rfl, by decide, inTX4, flX4_21, rfl⟩
theorem flX4_25 : Cond.fieldLink RX4 25 RX4 (TX4 4).2.1 (TX4 4).2.2.1 ∈ eT := eT_at 170 (by decide +kernel)
theorem fgX4_25 : okF RX4 25 4 4 := ⟨RX4, TX4, 15, rfl, by decide, inTX4, flX4_25, rfl⟩
theorem flX4_29 : Cond.fieldLink RX4 29 RX4 (TX4 6).2.1 (TX4 6).2.2.1 ∈ eT := eT_at 172 (by decide +kernel)
theorem fgX4_29 : okF RX4 29 4 6 := ⟨RX4, TX4, 15, rfl, by decide, inTX4, flX4_29, rfl⟩
theorem flX4_33 : Cond.fieldLink RX4 33 RX4 (TX4 10).2.1 (TX4 10).2.2.1 ∈ eT := eT_at 176 (by decide +kernel)
theorem fgX4_33 : okF RX4 33 4 10 := ⟨RX4, TX4, 15, rfl, by decide, inTX4, flX4_33, rfl⟩
theorem flX4_36 : Cond.fieldLink RX4 36 RX4 (TX4 12).2.1 (TX4 12).2.2.1 ∈ eT := eT_at 178 (by decide +kernel)
theorem fgX4_36 : okF RX4 36 4 12 := ⟨RX4, TX4, 15, rfl, by decide, inTX4, flX4_36, rfl⟩
theorem flX4_42 : Cond.fieldLink RX4 42 RX4 (TX4 13).2.1 (TX4 13).2.2.1 ∈ eT := eT_at 179 (by decide +kernel)
theorem fgX4_42 : okF RX4 42 4 13 := ⟨RX4, TX4, 15, rfl, by decide, inTX4, flX4_42, rfl⟩
theorem flX4_49 : Cond.fieldLink RX4 49 RX4 (TX4 14).2.1 (TX4 14).2.2.1 ∈ eT := eT_at 180 (by decide +kernel)
theorem fgX4_49 : okF RX4 49 4 14 := ⟨RX4, TX4, 15, rfl, by decide, inTX4, flX4_49, rfl⟩
theorem flX4_71 : Cond.fieldLink RX4 71 RX2 (TX2 0).2.1 (TX2 0).2.2.1 ∈ eT := eT_at 113 (by decide +kernel)
theorem fgX4_71 : okF RX4 71 2 0 := ⟨RX2, TX2, 5, rfl, by decide, inTX2, flX4_71, rfl⟩
theorem fpX4_71 : okP RX4 71 2 0 .boolean := ⟨RX2, TX2, 5, tyX2, rfl, by decide, inTX2, flX4_71, rfl, tyX2_ok, nmX2, rfl, by decide +kernel⟩
theorem flX4_75 : Cond.fieldLink RX4 75 RX2 (TX2 1).2.1 (TX2 1).2.2.1 ∈ eT := eT_at 115 (by decide +kernel)
theorem fgX4_75 : okF RX4 75 2 1 := ⟨RX2, TX2, 5, rfl, by decide, inTX2, flX4_75, rfl⟩
theorem fpX4_75 : okP RX4 75 2 1 .int := ⟨RX2, TX2, 5, tyX2, rfl, by decide, inTX2, flX4_75, rfl, tyX2_ok, nmX2, rfl, by decide +kernel⟩
theorem flX4_90 : Cond.fieldLink RX4 90 RX2 (TX2 3).2.1 (TX2 3).2.2.1 ∈ eT := eT_at 121 (by decide +kernel)
theorem fgX4_90 : okF RX4 90 2 3 := ⟨RX2, TX2, 5, rfl, by decide, inTX2, flX4_90, rfl⟩
theorem fpX4_90 : okP RX4 90 2 3 .int := ⟨RX2, TX2, 5, tyX2, rfl, by decide, inTX2, flX4_90, rfl, tyX2_ok, nmX2, rfl, by decide +kernel⟩
theorem flX4_93 : Cond.fieldLink RX4 93 RX2 (TX2 2).2.1 (TX2 2).2.2.1 ∈ eT := eT_at 118 (by decide +kernel)
theorem fgX4_93 : okF RX4 93 2 2 := ⟨RX2, TX2, 5, rfl, by decide, inTX2, flX4_93, rfl⟩
theorem fpX4_93 : okP RX4 93 2 2 .int := ⟨RX2, TX2, 5, tyX2, rfl, by decide, inTX2, flX4_93, rfl, tyX2_ok, nmX2, rfl, by decide +kernel⟩
theorem flX4_103 : Cond.fieldLink RX4 103 RX4 (TX4 8).2.1 (TX4 8).2.2.1 ∈ eT := eT_at 174 (by decide +kernel)
theorem fgX4_103 : okF RX4 103 4 8 := ⟨RX4, TX4, 15, rfl, by decide, inTX4, flX4_103, rfl⟩
theorem fpX4_103 : okP RX4 103 4 8 .int := ⟨RX4, TX4, 15, tyX4, rfl, by decide, inTX4, flX4_103, rfl, tyX4_ok, nmX4, rfl, by decide +kernel⟩
theorem flX4_110 : Cond.fieldLink RX4 110 RX4 (TX4 3).2.1 (TX4 3).2.2.1 ∈ eT := eT_at 169 (by decide +kernel)
theorem fgX4_110 : okF RX4 110 4 3 := ⟨RX4, TX4, 15, rfl, by decide, inTX4, flX4_110, rfl⟩
theorem fpX4_110 : okP RX4 110 4 3 .int := ⟨RX4, TX4, 15, tyX4, rfl, by decide, inTX4, flX4_110, rfl, tyX4_ok, nmX4, rfl, by decide +kernel⟩
theorem flX4_113 : Cond.fieldLink RX4 113 RX0 (TX0 0).2.1 (TX0 0).2.2.1 ∈ eT := eT_at 142 (by decide +kernel)
theorem fgX4_113 : okF RX4 113 0 0 := ⟨RX0, TX0, 6, rfl, by decide, inTX0, flX4_113, rfl⟩
theorem fpX4_113 : okP RX4 113 0 0 .int := ⟨RX0, TX0, 6, tyX0, rfl, by decide, inTX0, flX4_113, rfl, tyX0_ok, nmX0, rfl, by decide +kernel⟩
theorem flX4_116 : Cond.fieldLink RX4 116 RX0 (TX0 1).2.1 (TX0 1).2.2.1 ∈ eT := eT_at 144 (by decide +kernel)
theorem fgX4_116 : okF RX4 116 0 1 := ⟨RX0, TX0, 6, rfl, by decide, inTX0, flX4_116, rfl⟩
theorem fpX4_116 : okP RX4 116 0 1 .int := ⟨RX0, TX0, 6, tyX0, rfl, by decide, inTX0, flX4_116, rfl, tyX0_ok, nmX0, rfl, by decide +kernel⟩
theorem flX4_119 : Cond.fieldLink RX4 119 RX0 (TX0 2).2.1 (TX0 2).2.2.1 ∈ eT := eT_at 146 (by decide +kernel)
theorem fgX4_119 : okF RX4 119 0 2 := ⟨RX0, TX0, 6, rfl, by decide, inTX0, flX4_119, rfl⟩
theorem fpX4_119 : okP RX4 119 0 2 .int := ⟨RX0, TX0, 6, tyX0, rfl, by decide, inTX0, flX4_119, rfl, tyX0_ok, nmX0, rfl, by decide +kernel⟩
theorem flX4_141 : Cond.fieldLink RX4 141 RX0 (TX0 3).2.1 (TX0 3).2.2.1 ∈ eT := eT_at 148 (by decide +kernel)
theorem fgX4_141 : okF RX4 141 0 3 := ⟨RX0, TX0, 6, rfl, by decide, inTX0, flX4_141, rfl⟩
theorem fpX4_141 : okP RX4 141 0 3 .int := ⟨RX0, TX0, 6, tyX0, rfl, by decide, inTX0, flX4_141, rfl, tyX0_ok, nmX0, rfl, by decide +kernel⟩
theorem flX4_144 : Cond.fieldLink RX4 144 RX0 (TX0 4).2.1 (TX0 4).2.2.1 ∈ eT := eT_at 150 (by decide +kernel)
theorem fgX4_144 : okF RX4 144 0 4 := ⟨RX0, TX0, 6, rfl, by decide, inTX0, flX4_144, rfl⟩
theorem flX4_151 : Cond.fieldLink RX4 151 RX0 (TX0 5).2.1 (TX0 5).2.2.1 ∈ eT := eT_at 152 (by decide +kernel)
theorem fgX4_151 : okF RX4 151 0 5 := ⟨RX0, TX0, 6, rfl, by decide, inTX0, flX4_151, rfl⟩
theorem flX4_172 : Cond.fieldLink RX4 172 RX4 (TX4 5).2.1 (TX4 5).2.2.1 ∈ eT := eT_at 171 (by decide +kernel)
theorem fgX4_172 : okF RX4 172 4 5 := ⟨RX4, TX4, 15, rfl, by decide, inTX4, flX4_172, rfl⟩
theorem fpX4_172 : okP RX4 172 4 5 .int := ⟨RX4, TX4, 15, tyX4, rfl, by decide, inTX4, flX4_172, rfl, tyX4_ok, nmX4, rfl, by decide +kernel⟩
theorem flX4_175 : Cond.fieldLink RX4 175 RX4 (TX4 11).2.1 (TX4 11).2.2.1 ∈ eT := eT_at 177 (by decide +kernel)
theorem fgX4_175 : okF RX4 175 4 11 := ⟨RX4, TX4, 15, rfl, by decide, inTX4, flX4_175, rfl⟩
theorem fpX4_175 : okP RX4 175 4 11 .int := ⟨RX4, TX4, 15, tyX4, rfl, by decide, inTX4, flX4_175, rfl, tyX4_ok, nmX4, rfl, by decide +kernel⟩
theorem flX4_182 : Cond.fieldLink RX4 182 RX1 (TX1 0).2.1 (TX1 0).2.2.1 ∈ eT := eT_at 91 (by decide +kernel)
theorem fgX4_182 : okF RX4 182 1 0 := ⟨RX1, TX1, 4, rfl, by decide, inTX1, flX4_182, rfl⟩
theorem fpX4_182 : okP RX4 182 1 0 .boolean := ⟨RX1, TX1, 4, tyX1, rfl, by decide, inTX1, flX4_182, rfl, tyX1_ok, nmX1, rfl, by decide +kernel⟩
theorem flX4_185 : Cond.fieldLink RX4 185 RX1 (TX1 1).2.1 (TX1 1).2.2.1 ∈ eT := eT_at 93 (by decide +kernel)
theorem fgX4_185 : okF RX4 185 1 1 := ⟨RX1, TX1, 4, rfl, by decide, inTX1, flX4_185, rfl⟩
theorem fpX4_185 : okP RX4 185 1 1 .int := ⟨RX1, TX1, 4, tyX1, rfl, by decide, inTX1, flX4_185, rfl, tyX1_ok, nmX1, rfl, by decide +kernel⟩
theorem flX4_186 : Cond.fieldLink RX4 186 RX1 (TX1 2).2.1 (TX1 2).2.2.1 ∈ eT := eT_at 95 (by decide +kernel)
theorem fgX4_186 : okF RX4 186 1 2 := ⟨RX1, TX1, 4, rfl, by decide, inTX1, flX4_186, rfl⟩
theorem fpX4_186 : okP RX4 186 1 2 .int := ⟨RX1, TX1, 4, tyX1, rfl, by decide, inTX1, flX4_186, rfl, tyX1_ok, nmX1, rfl, by decide +kernel⟩
theorem flX4_187 : Cond.fieldLink RX4 187 RX1 (TX1 3).2.1 (TX1 3).2.2.1 ∈ eT := eT_at 97 (by decide +kernel)
theorem fgX4_187 : okF RX4 187 1 3 := ⟨RX1, TX1, 4, rfl, by decide, inTX1, flX4_187, rfl⟩
theorem fpX4_187 : okP RX4 187 1 3 .int := ⟨RX1, TX1, 4, tyX1, rfl, by decide, inTX1, flX4_187, rfl, tyX1_ok, nmX1, rfl, by decide +kernel⟩
theorem flX4_210 : Cond.fieldLink RX4 210 RX4 (TX4 7).2.1 (TX4 7).2.2.1 ∈ eT := eT_at 173 (by decide +kernel)
theorem fgX4_210 : okF RX4 210 4 7 := ⟨RX4, TX4, 15, rfl, by decide, inTX4, flX4_210, rfl⟩
theorem fpX4_210 : okP RX4 210 4 7 .int := ⟨RX4, TX4, 15, tyX4, rfl, by decide, inTX4, flX4_210, rfl, tyX4_ok, nmX4, rfl, by decide +kernel⟩
theorem flX4_219 : Cond.fieldLink RX4 219 RX4 (TX4 9).2.1 (TX4 9).2.2.1 ∈ eT := eT_at 175 (by decide +kernel)
theorem fgX4_219 : okF RX4 219 4 9 := ⟨RX4, TX4, 15, rfl, by decide, inTX4, flX4_219, rfl⟩
theorem fpX4_219 : okP RX4 219 4 9 .int := ⟨RX4, TX4, 15, tyX4, rfl, by decide, inTX4, flX4_219, rfl, tyX4_ok, nmX4, rfl, by decide +kernel⟩
theorem flX4_258 : Cond.fieldLink RX4 258 RX3 (TX3 0).2.1 (TX3 0).2.2.1 ∈ eT := eT_at 63 (by decide +kernel)
theorem fgX4_258 : okF RX4 258 3 0 := ⟨RX3, TX3, 5, rfl, by decide, inTX3, flX4_258, rfl⟩
theorem fpX4_258 : okP RX4 258 3 0 .int := ⟨RX3, TX3, 5, tyX3, rfl, by decide, inTX3, flX4_258, rfl, tyX3_ok, nmX3, rfl, by decide +kernel⟩
theorem flX4_280 : Cond.fieldLink RX4 280 RX3 (TX3 2).2.1 (TX3 2).2.2.1 ∈ eT := eT_at 67 (by decide +kernel)
theorem fgX4_280 : okF RX4 280 3 2 := ⟨RX3, TX3, 5, rfl, by decide, inTX3, flX4_280, rfl⟩
theorem fpX4_280 : okP RX4 280 3 2 .long := ⟨RX3, TX3, 5, tyX3, rfl, by decide, inTX3, flX4_280, rfl, tyX3_ok, nmX3, rfl, by decide +kernel⟩
theorem flX4_284 : Cond.fieldLink RX4 284 RX3 (TX3 1).2.1 (TX3 1).2.2.1 ∈ eT := eT_at 65 (by decide +kernel)
theorem fgX4_284 : okF RX4 284 3 1 := ⟨RX3, TX3, 5, rfl, by decide, inTX3, flX4_284, rfl⟩
theorem fpX4_284 : okP RX4 284 3 1 .long := ⟨RX3, TX3, 5, tyX3, rfl, by decide, inTX3, flX4_284, rfl, tyX3_ok, nmX3, rfl, by decide +kernel⟩
theorem flX0_9 : Cond.fieldLink RX0 9 RX0 (TX0 4).2.1 (TX0 4).2.2.1 ∈ eT := eT_at 149 (by decide +kernel)
theorem fgX0_9 : okF RX0 9 0 4 := ⟨RX0, TX0, 6, rfl, by decide, inTX0, flX0_9, rfl⟩
theorem flX0_18 : Cond.fieldLink RX0 18 RX0 (TX0 5).2.1 (TX0 5).2.2.1 ∈ eT := eT_at 151 (by decide +kernel)
theorem fgX0_18 : okF RX0 18 0 5 := ⟨RX0, TX0, 6, rfl, by decide, inTX0, flX0_18, rfl⟩
theorem flX0_22 : Cond.fieldLink RX0 22 RX0 (TX0 0).2.1 (TX0 0).2.2.1 ∈ eT := eT_at 141 (by decide +kernel)
theorem fgX0_22 : okF RX0 22 0 0 := ⟨RX0, TX0, 6, rfl, by decide, inTX0, flX0_22, rfl⟩
theorem fpX0_22 : okP RX0 22 0 0 .int := ⟨RX0, TX0, 6, tyX0, rfl, by decide, inTX0, flX0_22, rfl, tyX0_ok, nmX0, rfl, by decide +kernel⟩
theorem flX0_26 : Cond.fieldLink RX0 26 RX0 (TX0 1).2.1 (TX0 1).2.2.1 ∈ eT := eT_at 143 (by decide +kernel)
theorem fgX0_26 : okF RX0 26 0 1 := ⟨RX0, TX0, 6, rfl, by decide, inTX0, flX0_26, rfl⟩
theorem fpX0_26 : okP RX0 26 0 1 .int := ⟨RX0, TX0, 6, tyX0, rfl, by decide, inTX0, flX0_26, rfl, tyX0_ok, nmX0, rfl, by decide +kernel⟩
theorem flX0_35 : Cond.fieldLink RX0 35 RX2 (TX2 2).2.1 (TX2 2).2.2.1 ∈ eT := eT_at 117 (by decide +kernel)
theorem fgX0_35 : okF RX0 35 2 2 := ⟨RX2, TX2, 5, rfl, by decide, inTX2, flX0_35, rfl⟩
theorem fpX0_35 : okP RX0 35 2 2 .int := ⟨RX2, TX2, 5, tyX2, rfl, by decide, inTX2, flX0_35, rfl, tyX2_ok, nmX2, rfl, by decide +kernel⟩
theorem flX0_43 : Cond.fieldLink RX0 43 RX0 (TX0 2).2.1 (TX0 2).2.2.1 ∈ eT := eT_at 145 (by decide +kernel)
theorem fgX0_43 : okF RX0 43 0 2 := ⟨RX0, TX0, 6, rfl, by decide, inTX0, flX0_43, rfl⟩
theorem fpX0_43 : okP RX0 43 0 2 .int := ⟨RX0, TX0, 6, tyX0, rfl, by decide, inTX0, flX0_43, rfl, tyX0_ok, nmX0, rfl, by decide +kernel⟩
theorem flX0_49 : Cond.fieldLink RX0 49 RX2 (TX2 3).2.1 (TX2 3).2.2.1 ∈ eT := eT_at 120 (by decide +kernel)
theorem fgX0_49 : okF RX0 49 2 3 := ⟨RX2, TX2, 5, rfl, by decide, inTX2, flX0_49, rfl⟩
theorem fpX0_49 : okP RX0 49 2 3 .int := ⟨RX2, TX2, 5, tyX2, rfl, by decide, inTX2, flX0_49, rfl, tyX2_ok, nmX2, rfl, by decide +kernel⟩
theorem flX0_55 : Cond.fieldLink RX0 55 RX0 (TX0 3).2.1 (TX0 3).2.2.1 ∈ eT := eT_at 147 (by decide +kernel)
theorem fgX0_55 : okF RX0 55 0 3 := ⟨RX0, TX0, 6, rfl, by decide, inTX0, flX0_55, rfl⟩
theorem fpX0_55 : okP RX0 55 0 3 .int := ⟨RX0, TX0, 6, tyX0, rfl, by decide, inTX0, flX0_55, rfl, tyX0_ok, nmX0, rfl, by decide +kernel⟩
theorem flX1_7 : Cond.fieldLink RX1 7 RX1 (TX1 0).2.1 (TX1 0).2.2.1 ∈ eT := eT_at 90 (by decide +kernel)
theorem fgX1_7 : okF RX1 7 1 0 := ⟨RX1, TX1, 4, rfl, by decide, inTX1, flX1_7, rfl⟩
theorem fpX1_7 : okP RX1 7 1 0 .boolean := ⟨RX1, TX1, 4, tyX1, rfl, by decide, inTX1, flX1_7, rfl, tyX1_ok, nmX1, rfl, by decide +kernel⟩
theorem flX1_13 : Cond.fieldLink RX1 13 RX1 (TX1 1).2.1 (TX1 1).2.2.1 ∈ eT := eT_at 92 (by decide +kernel)
theorem fgX1_13 : okF RX1 13 1 1 := ⟨RX1, TX1, 4, rfl, by decide, inTX1, flX1_13, rfl⟩
theorem fpX1_13 : okP RX1 13 1 1 .int := ⟨RX1, TX1, 4, tyX1, rfl, by decide, inTX1, flX1_13, rfl, tyX1_ok, nmX1, rfl, by decide +kernel⟩
theorem flX1_17 : Cond.fieldLink RX1 17 RX1 (TX1 2).2.1 (TX1 2).2.2.1 ∈ eT := eT_at 94 (by decide +kernel)
theorem fgX1_17 : okF RX1 17 1 2 := ⟨RX1, TX1, 4, rfl, by decide, inTX1, flX1_17, rfl⟩
theorem fpX1_17 : okP RX1 17 1 2 .int := ⟨RX1, TX1, 4, tyX1, rfl, by decide, inTX1, flX1_17, rfl, tyX1_ok, nmX1, rfl, by decide +kernel⟩
theorem flX1_20 : Cond.fieldLink RX1 20 RX1 (TX1 3).2.1 (TX1 3).2.2.1 ∈ eT := eT_at 96 (by decide +kernel)
theorem fgX1_20 : okF RX1 20 1 3 := ⟨RX1, TX1, 4, rfl, by decide, inTX1, flX1_20, rfl⟩
theorem fpX1_20 : okP RX1 20 1 3 .int := ⟨RX1, TX1, 4, tyX1, rfl, by decide, inTX1, flX1_20, rfl, tyX1_ok, nmX1, rfl, by decide +kernel⟩
theorem flX2_9 : Cond.fieldLink RX2 9 RX2 (TX2 0).2.1 (TX2 0).2.2.1 ∈ eT := eT_at 112 (by decide +kernel)
theorem fgX2_9 : okF RX2 9 2 0 := ⟨RX2, TX2, 5, rfl, by decide, inTX2, flX2_9, rfl⟩
theorem fpX2_9 : okP RX2 9 2 0 .boolean := ⟨RX2, TX2, 5, tyX2, rfl, by decide, inTX2, flX2_9, rfl, tyX2_ok, nmX2, rfl, by decide +kernel⟩
theorem flX2_15 : Cond.fieldLink RX2 15 RX2 (TX2 4).2.1 (TX2 4).2.2.1 ∈ eT := eT_at 122 (by decide +kernel)
theorem fgX2_15 : okF RX2 15 2 4 := ⟨RX2, TX2, 5, rfl, by decide, inTX2, flX2_15, rfl⟩
theorem flX2_19 : Cond.fieldLink RX2 19 RX2 (TX2 1).2.1 (TX2 1).2.2.1 ∈ eT := eT_at 114 (by decide +kernel)
theorem fgX2_19 : okF RX2 19 2 1 := ⟨RX2, TX2, 5, rfl, by decide, inTX2, flX2_19, rfl⟩
theorem fpX2_19 : okP RX2 19 2 1 .int := ⟨RX2, TX2, 5, tyX2, rfl, by decide, inTX2, flX2_19, rfl, tyX2_ok, nmX2, rfl, by decide +kernel⟩
theorem flX2_23 : Cond.fieldLink RX2 23 RX2 (TX2 2).2.1 (TX2 2).2.2.1 ∈ eT := eT_at 116 (by decide +kernel)
theorem fgX2_23 : okF RX2 23 2 2 := ⟨RX2, TX2, 5, rfl, by decide, inTX2, flX2_23, rfl⟩
theorem fpX2_23 : okP RX2 23 2 2 .int := ⟨RX2, TX2, 5, tyX2, rfl, by decide, inTX2, flX2_23, rfl, tyX2_ok, nmX2, rfl, by decide +kernel⟩
theorem flX2_26 : Cond.fieldLink RX2 26 RX2 (TX2 3).2.1 (TX2 3).2.2.1 ∈ eT := eT_at 119 (by decide +kernel)
theorem fgX2_26 : okF RX2 26 2 3 := ⟨RX2, TX2, 5, rfl, by decide, inTX2, flX2_26, rfl⟩
theorem fpX2_26 : okP RX2 26 2 3 .int := ⟨RX2, TX2, 5, tyX2, rfl, by decide, inTX2, flX2_26, rfl, tyX2_ok, nmX2, rfl, by decide +kernel⟩
theorem flX3_7 : Cond.fieldLink RX3 7 RX3 (TX3 0).2.1 (TX3 0).2.2.1 ∈ eT := eT_at 62 (by decide +kernel)
theorem fgX3_7 : okF RX3 7 3 0 := ⟨RX3, TX3, 5, rfl, by decide, inTX3, flX3_7, rfl⟩
theorem fpX3_7 : okP RX3 7 3 0 .int := ⟨RX3, TX3, 5, tyX3, rfl, by decide, inTX3, flX3_7, rfl, tyX3_ok, nmX3, rfl, by decide +kernel⟩
theorem flX3_13 : Cond.fieldLink RX3 13 RX3 (TX3 1).2.1 (TX3 1).2.2.1 ∈ eT := eT_at 64 (by decide +kernel)
theorem fgX3_13 : okF RX3 13 3 1 := ⟨RX3, TX3, 5, rfl, by decide, inTX3, flX3_13, rfl⟩
theorem fpX3_13 : okP RX3 13 3 1 .long := ⟨RX3, TX3, 5, tyX3, rfl, by decide, inTX3, flX3_13, rfl, tyX3_ok, nmX3, rfl, by decide +kernel⟩
theorem flX3_17 : Cond.fieldLink RX3 17 RX3 (TX3 2).2.1 (TX3 2).2.2.1 ∈ eT := eT_at 66 (by decide +kernel)
theorem fgX3_17 : okF RX3 17 3 2 := ⟨RX3, TX3, 5, rfl, by decide, inTX3, flX3_17, rfl⟩
theorem fpX3_17 : okP RX3 17 3 2 .long := ⟨RX3, TX3, 5, tyX3, rfl, by decide, inTX3, flX3_17, rfl, tyX3_ok, nmX3, rfl, by decide +kernel⟩
theorem flX3_20 : Cond.fieldLink RX3 20 RX3 (TX3 3).2.1 (TX3 3).2.2.1 ∈ eT := eT_at 68 (by decide +kernel)
theorem fgX3_20 : okF RX3 20 3 3 := ⟨RX3, TX3, 5, rfl, by decide, inTX3, flX3_20, rfl⟩
theorem fpX3_20 : okP RX3 20 3 3 .long := ⟨RX3, TX3, 5, tyX3, rfl, by decide, inTX3, flX3_20, rfl, tyX3_ok, nmX3, rfl, by decide +kernel⟩
theorem flX3_23 : Cond.fieldLink RX3 23 RX3 (TX3 4).2.1 (TX3 4).2.2.1 ∈ eT := eT_at 69 (by decide +kernel)
theorem fgX3_23 : okF RX3 23 3 4 := ⟨RX3, TX3, 5, rfl, by decide, inTX3, flX3_23, rfl⟩
theorem fpX3_23 : okP RX3 23 3 4 .long := ⟨RX3, TX3, 5, tyX3, rfl, by decide, inTX3, flX3_23, rfl, tyX3_ok, nmX3, rfl, by decide +kernel⟩
theorem flX5_7 : Cond.fieldLink RX5 7 RX5 (TX5 0).2.1 (TX5 0).2.2.1 ∈ eT := eT_at 554 (by decide +kernel)
theorem fgX5_7 : okF RX5 7 5 0 := ⟨RX5, TX5, 30, rfl, by decide, inTX5, flX5_7, rfl⟩
theorem flX5_13 : Cond.fieldLink RX5 13 RX5 (TX5 1).2.1 (TX5 1).2.2.1 ∈ eT := eT_at 555 (by decide +kernel)
theorem fgX5_13 : okF RX5 13 5 1 := ⟨RX5, TX5, 30, rfl, by decide, inTX5, flX5_13, rfl⟩
theorem flX5_17 : Cond.fieldLink RX5 17 RX5 (TX5 2).2.1 (TX5 2).2.2.1 ∈ eT := eT_at 556 (by decide +kernel)
theorem fgX5_17 : okF RX5 17 5 2 := ⟨RX5, TX5, 30, rfl, by decide, inTX5, flX5_17, rfl⟩
theorem flX5_20 : Cond.fieldLink RX5 20 RX5 (TX5 3).2.1 (TX5 3).2.2.1 ∈ eT := eT_at 557 (by decide +kernel)
theorem fgX5_20 : okF RX5 20 5 3 := ⟨RX5, TX5, 30, rfl, by decide, inTX5, flX5_20, rfl⟩
theorem flX5_23 : Cond.fieldLink RX5 23 RX5 (TX5 4).2.1 (TX5 4).2.2.1 ∈ eT := eT_at 558 (by decide +kernel)
theorem fgX5_23 : okF RX5 23 5 4 := ⟨RX5, TX5, 30, rfl, by decide, inTX5, flX5_23, rfl⟩
theorem flX5_26 : Cond.fieldLink RX5 26 RX5 (TX5 5).2.1 (TX5 5).2.2.1 ∈ eT := eT_at 559 (by decide +kernel)
theorem fgX5_26 : okF RX5 26 5 5 := ⟨RX5, TX5, 30, rfl, by decide, inTX5, flX5_26, rfl⟩
theorem flX5_29 : Cond.fieldLink RX5 29 RX5 (TX5 7).2.1 (TX5 7).2.2.1 ∈ eT := eT_at 561 (by decide +kernel)
theorem fgX5_29 : okF RX5 29 5 7 := ⟨RX5, TX5, 30, rfl, by decide, inTX5, flX5_29, rfl⟩
theorem flX5_32 : Cond.fieldLink RX5 32 RX5 (TX5 8).2.1 (TX5 8).2.2.1 ∈ eT := eT_at 562 (by decide +kernel)
theorem fgX5_32 : okF RX5 32 5 8 := ⟨RX5, TX5, 30, rfl, by decide, inTX5, flX5_32, rfl⟩
theorem flX5_35 : Cond.fieldLink RX5 35 RX5 (TX5 9).2.1 (TX5 9).2.2.1 ∈ eT := eT_at 563 (by decide +kernel)
theorem fgX5_35 : okF RX5 35 5 9 := ⟨RX5, TX5, 30, rfl, by decide, inTX5, flX5_35, rfl⟩
theorem flX5_38 : Cond.fieldLink RX5 38 RX5 (TX5 10).2.1 (TX5 10).2.2.1 ∈ eT := eT_at 564 (by decide +kernel)
theorem fgX5_38 : okF RX5 38 5 10 := ⟨RX5, TX5, 30, rfl, by decide, inTX5, flX5_38, rfl⟩
theorem flX5_41 : Cond.fieldLink RX5 41 RX5 (TX5 11).2.1 (TX5 11).2.2.1 ∈ eT := eT_at 565 (by decide +kernel)
theorem fgX5_41 : okF RX5 41 5 11 := ⟨RX5, TX5, 30, rfl, by decide, inTX5, flX5_41, rfl⟩
theorem flX5_45 : Cond.fieldLink RX5 45 RX5 (TX5 12).2.1 (TX5 12).2.2.1 ∈ eT := eT_at 566 (by decide +kernel)
theorem fgX5_45 : okF RX5 45 5 12 := ⟨RX5, TX5, 30, rfl, by decide, inTX5, flX5_45, rfl⟩
theorem flX5_48 : Cond.fieldLink RX5 48 RX5 (TX5 13).2.1 (TX5 13).2.2.1 ∈ eT := eT_at 567 (by decide +kernel)
theorem fgX5_48 : okF RX5 48 5 13 := ⟨RX5, TX5, 30, rfl, by decide, inTX5, flX5_48, rfl⟩
theorem flX5_51 : Cond.fieldLink RX5 51 RX5 (TX5 14).2.1 (TX5 14).2.2.1 ∈ eT := eT_at 568 (by decide +kernel)
theorem fgX5_51 : okF RX5 51 5 14 := ⟨RX5, TX5, 30, rfl, by decide, inTX5, flX5_51, rfl⟩
theorem flX5_54 : Cond.fieldLink RX5 54 RX5 (TX5 15).2.1 (TX5 15).2.2.1 ∈ eT := eT_at 569 (by decide +kernel)
theorem fgX5_54 : okF RX5 54 5 15 := ⟨RX5, TX5, 30, rfl, by decide, inTX5, flX5_54, rfl⟩
theorem flX5_57 : Cond.fieldLink RX5 57 RX5 (TX5 17).2.1 (TX5 17).2.2.1 ∈ eT := eT_at 571 (by decide +kernel)
theorem fgX5_57 : okF RX5 57 5 17 := ⟨RX5, TX5, 30, rfl, by decide, inTX5, flX5_57, rfl⟩
theorem flX5_60 : Cond.fieldLink RX5 60 RX5 (TX5 20).2.1 (TX5 20).2.2.1 ∈ eT := eT_at 574 (by decide +kernel)
theorem fgX5_60 : okF RX5 60 5 20 := ⟨RX5, TX5, 30, rfl, by decide, inTX5, flX5_60, rfl⟩
theorem flX5_63 : Cond.fieldLink RX5 63 RX5 (TX5 23).2.1 (TX5 23).2.2.1 ∈ eT := eT_at 577 (by decide +kernel)
theorem fgX5_63 : okF RX5 63 5 23 := ⟨RX5, TX5, 30, rfl, by decide, inTX5, flX5_63, rfl⟩
theorem flX5_66 : Cond.fieldLink RX5 66 RX5 (TX5 25).2.1 (TX5 25).2.2.1 ∈ eT := eT_at 579 (by decide +kernel)
theorem fgX5_66 : okF RX5 66 5 25 := ⟨RX5, TX5, 30, rfl, by decide, inTX5, flX5_66, rfl⟩
theorem flX5_69 : Cond.fieldLink RX5 69 RX5 (TX5 22).2.1 (TX5 22).2.2.1 ∈ eT := eT_at 576 (by decide +kernel)
theorem fgX5_69 : okF RX5 69 5 22 := ⟨RX5, TX5, 30, rfl, by decide, inTX5, flX5_69, rfl⟩
theorem fpX5_69 : okP RX5 69 5 22 .int := ⟨RX5, TX5, 30, tyX5, rfl, by decide, inTX5, flX5_69, rfl, tyX5_ok, nmX5, rfl, by decide +kernel⟩
theorem flX5_79 : Cond.fieldLink RX5 79 RX5 (TX5 6).2.1 (TX5 6).2.2.1 ∈ eT := eT_at 560 (by decide +kernel)
theorem fgX5_79 : okF RX5 79 5 6 := ⟨RX5, TX5, 30, rfl, by decide, inTX5, flX5_79, rfl⟩
theorem fpX5_79 : okP RX5 79 5 6 .int := ⟨RX5, TX5, 30, tyX5, rfl, by decide, inTX5, flX5_79, rfl, tyX5_ok, nmX5, rfl, by decide +kernel⟩
theorem flX5_110 : Cond.fieldLink RX5 110 RX5 (TX5 21).2.1 (TX5 21).2.2.1 ∈ eT := eT_at 575 (by decide +kernel)
theorem fgX5_110 : okF RX5 110 5 21 := ⟨RX5, TX5, 30, rfl, by decide, inTX5, flX5_110, rfl⟩
theorem fpX5_110 : okP RX5 110 5 21 .int := ⟨RX5, TX5, 30, tyX5, rfl, by decide, inTX5, flX5_110, rfl, tyX5_ok, nmX5, rfl, by decide +kernel⟩
theorem flX5_162 : Cond.fieldLink RX5 162 RX5 (TX5 24).2.1 (TX5 24).2.2.1 ∈ eT := eT_at 578 (by decide +kernel)
theorem fgX5_162 : okF RX5 162 5 24 := ⟨RX5, TX5, 30, rfl, by decide, inTX5, flX5_162, rfl⟩
theorem fpX5_162 : okP RX5 162 5 24 .int := ⟨RX5, TX5, 30, tyX5, rfl, by decide, inTX5, flX5_162, rfl, tyX5_ok, nmX5, rfl, by decide +kernel⟩
theorem flX5_173 : Cond.fieldLink RX5 173 RX5 (TX5 16).2.1 (TX5 16).2.2.1 ∈ eT := eT_at 570 (by decide +kernel)
theorem fgX5_173 : okF RX5 173 5 16 := ⟨RX5, TX5, 30, rfl, by decide, inTX5, flX5_173, rfl⟩
theorem fpX5_173 : okP RX5 173 5 16 .int := ⟨RX5, TX5, 30, tyX5, rfl, by decide, inTX5, flX5_173, rfl, tyX5_ok, nmX5, rfl, by decide +kernel⟩
theorem flX5_186 : Cond.fieldLink RX5 186 RX5 (TX5 26).2.1 (TX5 26).2.2.1 ∈ eT := eT_at 580 (by decide +kernel)
theorem fgX5_186 : okF RX5 186 5 26 := ⟨RX5, TX5, 30, rfl, by decide, inTX5, flX5_186, rfl⟩
theorem fpX5_186 : okP RX5 186 5 26 .int := ⟨RX5, TX5, 30, tyX5, rfl, by decide, inTX5, flX5_186, rfl, tyX5_ok, nmX5, rfl, by decide +kernel⟩
theorem flX5_189 : Cond.fieldLink RX5 189 RX5 (TX5 28).2.1 (TX5 28).2.2.1 ∈ eT := eT_at 582 (by decide +kernel)
theorem fgX5_189 : okF RX5 189 5 28 := ⟨RX5, TX5, 30, rfl, by decide, inTX5, flX5_189, rfl⟩
theorem fpX5_189 : okP RX5 189 5 28 .long := ⟨RX5, TX5, 30, tyX5, rfl, by decide, inTX5, flX5_189, rfl, tyX5_ok, nmX5, rfl, by decide +kernel⟩
theorem flX5_193 : Cond.fieldLink RX5 193 RX5 (TX5 27).2.1 (TX5 27).2.2.1 ∈ eT := eT_at 581 (by decide +kernel)
theorem fgX5_193 : okF RX5 193 5 27 := ⟨RX5, TX5, 30, rfl, by decide, inTX5, flX5_193, rfl⟩
theorem fpX5_193 : okP RX5 193 5 27 .long := ⟨RX5, TX5, 30, tyX5, rfl, by decide, inTX5, flX5_193, rfl, tyX5_ok, nmX5, rfl, by decide +kernel⟩
theorem flX5_198 : Cond.fieldLink RX5 198 RX5 (TX5 18).2.1 (TX5 18).2.2.1 ∈ eT := eT_at 572 (by decide +kernel)
theorem fgX5_198 : okF RX5 198 5 18 := ⟨RX5, TX5, 30, rfl, by decide, inTX5, flX5_198, rfl⟩
theorem fpX5_198 : okP RX5 198 5 18 .int := ⟨RX5, TX5, 30, tyX5, rfl, by decide, inTX5, flX5_198, rfl, tyX5_ok, nmX5, rfl, by decide +kernel⟩
theorem flX5_215 : Cond.fieldLink RX5 215 RX5 (TX5 19).2.1 (TX5 19).2.2.1 ∈ eT := eT_at 573 (by decide +kernel)
theorem fgX5_215 : okF RX5 215 5 19 := ⟨RX5, TX5, 30, rfl, by decide, inTX5, flX5_215, rfl⟩
theorem fpX5_215 : okP RX5 215 5 19 .int := ⟨RX5, TX5, 30, tyX5, rfl, by decide, inTX5, flX5_215, rfl, tyX5_ok, nmX5, rfl, by decide +kernel⟩
theorem flX5_232 : Cond.fieldLink RX5 232 RX5 (TX5 29).2.1 (TX5 29).2.2.1 ∈ eT := eT_at 583 (by decide +kernel)
theorem fgX5_232 : okF RX5 232 5 29 := ⟨RX5, TX5, 30, rfl, by decide, inTX5, flX5_232, rfl⟩
theorem fpX5_232 : okP RX5 232 5 29 .long := ⟨RX5, TX5, 30, tyX5, rfl, by decide, inTX5, flX5_232, rfl, tyX5_ok, nmX5, rfl, by decide +kernel⟩
theorem kcX4_157 : Cond.constantLong RX4 157 (-101) ∈ eT := eT_at 388 (by decide +kernel)
theorem kcX4_165 : Cond.constantLong RX4 165 (-1) ∈ eT := eT_at 398 (by decide +kernel)
theorem kcX4_171 : Cond.constant RX4 171 (1000000) ∈ eT := eT_at 426 (by decide +kernel)
theorem kcX4_193 : Cond.constant RX4 193 (-1000000) ∈ eT := eT_at 469 (by decide +kernel)
theorem kcX4_194 : Cond.constant RX4 194 (100000) ∈ eT := eT_at 470 (by decide +kernel)
theorem kcX4_195 : Cond.constant RX4 195 (-2000000000) ∈ eT := eT_at 475 (by decide +kernel)
theorem kcX4_196 : Cond.constant RX4 196 (-2000000001) ∈ eT := eT_at 476 (by decide +kernel)
theorem kcX4_197 : Cond.constant RX4 197 (-2000000002) ∈ eT := eT_at 477 (by decide +kernel)
theorem kcX4_213 : Cond.constantLong RX4 213 (-102) ∈ eT := eT_at 501 (by decide +kernel)
theorem kcX4_228 : Cond.constantLong RX4 228 (113) ∈ eT := eT_at 537 (by decide +kernel)
theorem kcX4_293 : Cond.constantLong RX4 293 (64) ∈ eT := eT_at 439 (by decide +kernel)
theorem kcX4_295 : Cond.constantLong RX4 295 (100000) ∈ eT := eT_at 440 (by decide +kernel)
theorem kcX4_297 : Cond.constantLong RX4 297 (-1000000) ∈ eT := eT_at 441 (by decide +kernel)
theorem kcX4_299 : Cond.constantLong RX4 299 (1000000) ∈ eT := eT_at 442 (by decide +kernel)
theorem kcX4_318 : Cond.constantLong RX4 318 (31) ∈ eT := eT_at 544 (by decide +kernel)
theorem kcX0_66 : Cond.constantLong RX0 66 (64) ∈ eT := eT_at 416 (by decide +kernel)
theorem kcX2_43 : Cond.constant RX2 43 (100000) ∈ eT := eT_at 340 (by decide +kernel)
theorem kcL_72 : Cond.constantLong RL 72 (4294967295) ∈ eT := eT_at 877 (by decide +kernel)
theorem kcX5_73 : Cond.constantLong RX5 73 (5) ∈ eT := eT_at 652 (by decide +kernel)
theorem kcX5_86 : Cond.constantLong RX5 86 (2) ∈ eT := eT_at 656 (by decide +kernel)
theorem kcX5_108 : Cond.constantLong RX5 108 (19) ∈ eT := eT_at 695 (by decide +kernel)
theorem kcX5_113 : Cond.constantLong RX5 113 (304) ∈ eT := eT_at 704 (by decide +kernel)
theorem kcX5_115 : Cond.constantLong RX5 115 (3) ∈ eT := eT_at 705 (by decide +kernel)
theorem kcX5_137 : Cond.constantLong RX5 137 (16) ∈ eT := eT_at 747 (by decide +kernel)
theorem kcX5_142 : Cond.constant RX5 142 (100000) ∈ eT := eT_at 745 (by decide +kernel)
theorem kcX5_143 : Cond.constantLong RX5 143 (100000) ∈ eT := eT_at 746 (by decide +kernel)
theorem kcX5_152 : Cond.constantLong RX5 152 (100) ∈ eT := eT_at 752 (by decide +kernel)
theorem kcX5_158 : Cond.constantLong RX5 158 (-101) ∈ eT := eT_at 769 (by decide +kernel)
theorem kcX5_160 : Cond.constantLong RX5 160 (-1) ∈ eT := eT_at 770 (by decide +kernel)
theorem kcX5_165 : Cond.constantLong RX5 165 (64) ∈ eT := eT_at 779 (by decide +kernel)
theorem kcX5_171 : Cond.constantLong RX5 171 (1000000) ∈ eT := eT_at 788 (by decide +kernel)
theorem kcX5_180 : Cond.constantLong RX5 180 (-1000000) ∈ eT := eT_at 802 (by decide +kernel)
theorem kcX5_196 : Cond.constantLong RX5 196 (10000) ∈ eT := eT_at 797 (by decide +kernel)
theorem kcX5_205 : Cond.constant RX5 205 (-2000000000) ∈ eT := eT_at 818 (by decide +kernel)
theorem kcX5_206 : Cond.constantLong RX5 206 (2000) ∈ eT := eT_at 819 (by decide +kernel)
theorem kcX5_208 : Cond.constant RX5 208 (-2000000001) ∈ eT := eT_at 820 (by decide +kernel)
theorem kcX5_209 : Cond.constant RX5 209 (-2000000002) ∈ eT := eT_at 821 (by decide +kernel)
theorem kcX5_210 : Cond.constantLong RX5 210 (60) ∈ eT := eT_at 826 (by decide +kernel)
theorem kcX5_222 : Cond.constantLong RX5 222 (-19) ∈ eT := eT_at 843 (by decide +kernel)
theorem kcX5_228 : Cond.constantLong RX5 228 (-102) ∈ eT := eT_at 848 (by decide +kernel)
theorem kcX5_230 : Cond.constantLong RX5 230 (31) ∈ eT := eT_at 875 (by decide +kernel)
theorem kcX5_235 : Cond.constantLong RX5 235 (113) ∈ eT := eT_at 870 (by decide +kernel)
theorem eN_at {w : Cond} (i : Nat) (h : (decide (lw_tbl[i]? = some w) && isNest w) = true) : w ∈ eN := by
  simp only [Bool.and_eq_true, decide_eq_true_eq] at h
  exact List.mem_filter.mpr ⟨List.mem_of_getElem? h.1, h.2⟩
theorem nkX4_41 : Cond.methodLinkNest RX4 41 yX3_init RX4 ∈ eN := eN_at 58 (by decide +kernel)
theorem nkX4_48 : Cond.methodLinkNest RX4 48 yX1_init RX4 ∈ eN := eN_at 86 (by decide +kernel)
theorem nkX4_53 : Cond.methodLinkNest RX4 53 yX2_init RX4 ∈ eN := eN_at 108 (by decide +kernel)
theorem nkX4_54 : Cond.methodLinkNest RX4 54 yX0_init RX4 ∈ eN := eN_at 135 (by decide +kernel)
theorem nkX0_17 : Cond.methodLinkNest RX0 17 yX1_init RX4 ∈ eN := eN_at 140 (by decide +kernel)
theorem nkX2_39 : Cond.methodLinkNest RX2 39 yX4_castToLane RX4 ∈ eN := eN_at 250 (by decide +kernel)
end
section
/-! numbers: machine ints and longs as images of whole numbers -/
def iI (z : Int) : Int32 := Int32.ofInt z
def jI (z : Int) : Int64 := Int64.ofInt z
theorem iI_add (a b : Int) : iI a + iI b = iI (a + b) := (Int32.ofInt_add a b).symm
theorem iI_sub (a b : Int) : iI a - iI b = iI (a - b) := (Int32.ofInt_sub a b).symm
theorem iI_mul (a b : Int) : iI a * iI b = iI (a * b) := (Int32.ofInt_mul a b).symm
theorem iI_neg (a : Int) : -iI a = iI (-a) := (Int32.ofInt_neg a).symm
theorem jI_add (a b : Int) : jI a + jI b = jI (a + b) := (Int64.ofInt_add a b).symm
theorem jI_sub (a b : Int) : jI a - jI b = jI (a - b) := (Int64.ofInt_sub a b).symm
theorem jI_mul (a b : Int) : jI a * jI b = jI (a * b) := (Int64.ofInt_mul a b).symm
theorem jI_neg (a : Int) : -jI a = jI (-a) := (Int64.ofInt_neg a).symm
theorem iI_toInt {a : Int} (h1 : -2147483648 ≤ a) (h2 : a < 2147483648) : (iI a).toInt = a := Int32.toInt_ofInt_of_le (by omega) (by omega)
theorem jI_toInt {a : Int} (h1 : -9223372036854775808 ≤ a) (h2 : a < 9223372036854775808) : (jI a).toInt = a := Int64.toInt_ofInt_of_le (by omega) (by omega)
theorem iI_of (x : Int32) : iI x.toInt = x := Int32.ofInt_toInt x
theorem jI_of (x : Int64) : jI x.toInt = x := Int64.ofInt_toInt x
theorem i_lo (x : Int32) : -2147483648 ≤ x.toInt := by have := x.le_toInt; omega
theorem i_hi (x : Int32) : x.toInt < 2147483648 := by have := x.toInt_lt; omega
theorem j_lo (x : Int64) : -9223372036854775808 ≤ x.toInt := by have := x.le_toInt; omega
theorem j_hi (x : Int64) : x.toInt < 9223372036854775808 := by have := x.toInt_lt; omega
theorem i_ex (x : Int32) : ∃ z : Int, x = iI z ∧ -2147483648 ≤ z ∧ z < 2147483648 := ⟨x.toInt, (iI_of x).symm, i_lo x, i_hi x⟩
theorem j_ex (x : Int64) : ∃ z : Int, x = jI z ∧ -9223372036854775808 ≤ z ∧ z < 9223372036854775808 := ⟨x.toInt, (jI_of x).symm, j_lo x, j_hi x⟩
theorem iI_lt {a b : Int} (a1 : -2147483648 ≤ a) (a2 : a < 2147483648) (b1 : -2147483648 ≤ b) (b2 : b < 2147483648) : iI a < iI b ↔ a < b := by
  rw [Int32.lt_iff_toInt_lt, iI_toInt a1 a2, iI_toInt b1 b2]
theorem iI_le {a b : Int} (a1 : -2147483648 ≤ a) (a2 : a < 2147483648) (b1 : -2147483648 ≤ b) (b2 : b < 2147483648) : iI a ≤ iI b ↔ a ≤ b := by
  rw [Int32.le_iff_toInt_le, iI_toInt a1 a2, iI_toInt b1 b2]
theorem iI_eq {a b : Int} (a1 : -2147483648 ≤ a) (a2 : a < 2147483648) (b1 : -2147483648 ≤ b) (b2 : b < 2147483648) : iI a = iI b ↔ a = b := by
  rw [← Int32.toInt_inj, iI_toInt a1 a2, iI_toInt b1 b2]
theorem jI_lt {a b : Int} (a1 : -9223372036854775808 ≤ a) (a2 : a < 9223372036854775808) (b1 : -9223372036854775808 ≤ b) (b2 : b < 9223372036854775808) : jI a < jI b ↔ a < b := by
  rw [Int64.lt_iff_toInt_lt, jI_toInt a1 a2, jI_toInt b1 b2]
theorem jI_le {a b : Int} (a1 : -9223372036854775808 ≤ a) (a2 : a < 9223372036854775808) (b1 : -9223372036854775808 ≤ b) (b2 : b < 9223372036854775808) : jI a ≤ jI b ↔ a ≤ b := by
  rw [Int64.le_iff_toInt_le, jI_toInt a1 a2, jI_toInt b1 b2]
theorem jI_eq {a b : Int} (a1 : -9223372036854775808 ≤ a) (a2 : a < 9223372036854775808) (b1 : -9223372036854775808 ≤ b) (b2 : b < 9223372036854775808) : jI a = jI b ↔ a = b := by
  rw [← Int64.toInt_inj, jI_toInt a1 a2, jI_toInt b1 b2]
theorem iI_lit (n : Nat) : (OfNat.ofNat n : Int32) = iI (n : Int) := (Int32.ofInt_eq_ofNat).symm
theorem jI_lit (n : Nat) : (OfNat.ofNat n : Int64) = jI (n : Int) := (Int64.ofInt_eq_ofNat).symm
theorem nI_iI (n : Nat) : nI n = iI (n : Int) := (Int32.ofInt_eq_ofNat).symm
theorem lN_jI (n : Nat) : lN n = jI (n : Int) := (Int64.ofInt_eq_ofNat).symm
theorem iI_l {a : Int} (h1 : -2147483648 ≤ a) (h2 : a < 2147483648) : (iI a).toInt64 = jI a := by
  rw [← Int64.toInt_inj, Int32.toInt_toInt64, iI_toInt h1 h2, jI_toInt (by omega) (by omega)]
theorem i_l (x : Int32) : x.toInt64 = jI x.toInt := by
  rw [← Int64.toInt_inj, Int32.toInt_toInt64, jI_toInt (by have := i_lo x; omega) (by have := i_hi x; omega)]
theorem jI_i (a : Int) : (jI a).toInt32 = iI a := by
  have h : (Int64.ofInt a).toInt32 = Int32.ofInt a := Int64.toInt32_ofInt
  exact h
theorem iI_nat {a : Int} (h1 : 0 ≤ a) (h2 : a < 2147483648) : (iI a).toNatClampNeg = a.toNat := by
  show (iI a).toInt.toNat = a.toNat
  rw [iI_toInt (by omega) h2]
theorem iI_in {a : Int} {n : Nat} (h1 : 0 ≤ a) (h2 : a < n) (h3 : n < 2147483648) : vp_in (iI a) n := by
  rw [vp_in_iff, iI_toInt (by omega) (by omega)]
  exact ⟨h1, h2⟩
theorem iI_b {a b : Int} (h : a = b) : iI a = iI b := by rw [h]
theorem jI_b {a b : Int} (h : a = b) : jI a = jI b := by rw [h]
/-- division of the machine, by a number above 0 -/
theorem iI_tdiv {a b : Int} (a1 : -2147483648 ≤ a) (a2 : a < 2147483648) (b1 : 0 < b) (b2 : b < 2147483648) : iI a / iI b = iI (a.tdiv b) := by
  rw [← Int32.toInt_inj, Int32.toInt_div_of_ne_right _ _ (by
    intro h
    have h2 := congrArg Int32.toInt h
    rw [iI_toInt (by omega) b2] at h2
    have h3 : ((-1 : Int32)).toInt = -1 := by decide +kernel
    omega), iI_toInt a1 a2, iI_toInt (by omega) b2, iI_toInt]
  · have := Int.tdiv_le_tdiv b1 a1
    have h5 : (-2147483648 : Int) ≤ (-2147483648 : Int).tdiv b := by
      rw [Int.neg_tdiv]
      have h6 : (2147483648 : Int).tdiv b ≤ 2147483648 := by
        rw [Int.tdiv_eq_ediv_of_nonneg (by omega)]
        exact Int.ediv_le_self _ (by omega)
      omega
    omega
  · by_cases h : 0 ≤ a
    · rw [Int.tdiv_eq_ediv_of_nonneg h]
      have := Int.ediv_le_self b h
      omega
    · have : a.tdiv b ≤ 0 := by
        have h7 : a = -(-a) := by omega
        rw [h7, Int.neg_tdiv]
        have : 0 ≤ (-a).tdiv b := Int.tdiv_nonneg (by omega) (by omega)
        omega
      omega
theorem jI_tdiv {a b : Int} (a1 : -9223372036854775808 ≤ a) (a2 : a < 9223372036854775808) (b1 : 0 < b) (b2 : b < 9223372036854775808) : jI a / jI b = jI (a.tdiv b) := by
  rw [← Int64.toInt_inj, Int64.toInt_div_of_ne_right _ _ (by
    intro h
    have h2 := congrArg Int64.toInt h
    rw [jI_toInt (by omega) b2] at h2
    have h3 : ((-1 : Int64)).toInt = -1 := by decide +kernel
    omega), jI_toInt a1 a2, jI_toInt (by omega) b2, jI_toInt]
  · have := Int.tdiv_le_tdiv b1 a1
    have h5 : (-9223372036854775808 : Int) ≤ (-9223372036854775808 : Int).tdiv b := by
      rw [Int.neg_tdiv]
      have h6 : (9223372036854775808 : Int).tdiv b ≤ 9223372036854775808 := by
        rw [Int.tdiv_eq_ediv_of_nonneg (by omega)]
        exact Int.ediv_le_self _ (by omega)
      omega
    omega
  · by_cases h : 0 ≤ a
    · rw [Int.tdiv_eq_ediv_of_nonneg h]
      have := Int.ediv_le_self b h
      omega
    · have : a.tdiv b ≤ 0 := by
        have h7 : a = -(-a) := by omega
        rw [h7, Int.neg_tdiv]
        have : 0 ≤ (-a).tdiv b := Int.tdiv_nonneg (by omega) (by omega)
        omega
      omega
/-- rounding down out of the machine's division -/
theorem fl_pos {a b : Int} (h : 0 ≤ a) : a.tdiv b = a / b := Int.tdiv_eq_ediv_of_nonneg h
theorem fl_neg_exact {a b : Int} (hb : 0 < b) (h : a.tdiv b * b = a) : a.tdiv b = a / b := by
  have hb' : b ≠ 0 := by omega
  have h1 : a / b = a.tdiv b := by
    conv => lhs; rw [← h]
    exact Int.mul_ediv_cancel _ hb'
  exact h1.symm
theorem fl_neg {a b : Int} (hb : 0 < b) (ha : a < 0) (h : ¬ a.tdiv b * b = a) : a.tdiv b - 1 = a / b := by
  have e : a = -(-a) := by omega
  have h1 : a.tdiv b = -((-a) / b) := by
    conv => lhs; rw [e]
    rw [Int.neg_tdiv, Int.tdiv_eq_ediv_of_nonneg (by omega)]
  have h2 := Int.mul_ediv_add_emod (-a) b
  have h3 := Int.emod_nonneg (-a) (show b ≠ 0 by omega)
  have h4 := Int.emod_lt_of_pos (-a) hb
  generalize (-a) / b = q at *
  generalize (-a) % b = r at *
  rw [h1] at h ⊢
  have h5 : r ≠ 0 := by
    intro hr
    apply h
    rw [Int.neg_mul, Int.mul_comm]
    omega
  have h6 : a = b - r + b * (-q - 1) := by
    have : b * (-q - 1) = -(b * q) - b := by rw [Int.mul_sub, Int.mul_neg, Int.mul_one]
    omega
  have h7 : a / b = (b - r) / b + (-q - 1) := by
    conv => lhs; rw [h6]
    exact Int.add_mul_ediv_left _ _ (by omega)
  rw [h7, Int.ediv_eq_zero_of_lt (by omega) (by omega)]
  omega
end
section
/-! THE LAYER. The heap of the system by positions: position k lies at the address ad k and holds the cell h k.
EV: from a place in a method's code the method comes to its end, with an answer and a heap of which 'post' holds. MC: a method's contract. -/
abbrev eG : Type := Launch × va_G × (Nat → ClassId)
def tysOf (cs : Nat → ClassId) : List (ClassId × FieldType) := [(cs 0, .int), (cs 1, .long), (cs 2, .boolean), (cs 3, .object "CombedLight$Plate"), (cs 4, .object "CombedLight$Comb")]
def wld (ad : Nat → Nat) (n : Nat) (h : Nat → va_E) : va_W := (List.range n).map (fun k => (ad k, h k))
theorem wld_get {ad : Nat → Nat} {n : Nat} {h : Nat → va_E} {k : Nat} (hk : k < n) : (wld ad n h)[k]? = some (ad k, h k) := by
  simp [wld, hk]
theorem wld_get' {ad : Nat → Nat} {n : Nat} {h : Nat → va_E} {k : Nat} {e : va_E} (hk : k < n) (he : h k = e) : (wld ad n h)[k]? = some (ad k, e) := by
  rw [wld_get hk, he]
theorem wld_set {ad : Nat → Nat} {n : Nat} {h : Nat → va_E} {k : Nat} {e : va_E} : (wld ad n h).set k (ad k, e) = wld ad n (va_up h k e) := by
  apply List.ext_getElem?
  intro i
  by_cases hi : i < n
  · rw [wld_get hi]
    by_cases hk : i = k
    · subst hk
      rw [List.getElem?_set_self (by simpa [wld] using hi)]
      simp [va_up]
    · rw [List.getElem?_set_ne (Ne.symm hk), wld_get hi]
      simp [va_up, hk]
  · rw [List.getElem?_eq_none (by simpa [wld] using hi), List.getElem?_eq_none (by simpa [wld] using hi)]
/-! locals: a list by slots -/
def lget : List (Option Value) → Nat → Option Value
  | [], _ => none
  | o :: _, 0 => o
  | _ :: t, i + 1 => lget t i
def lk : Nat → Option Value → Option Value
  | 0, o => (match o with
    | some (.long _) => none
    | some (.double _) => none
    | o => o)
  | _ + 1, o => o
def lst1 : List (Option Value) → Nat → Value → List (Option Value)
  | [], _, _ => []
  | _ :: t, 0, v => some v :: t
  | o :: t, i + 1, v => lk i o :: lst1 t i v
def lno : List (Option Value) → List (Option Value)
  | [] => []
  | _ :: t => none :: t
def lst2 : List (Option Value) → Nat → Value → List (Option Value)
  | [], _, _ => []
  | _ :: t, 0, v => some v :: lno t
  | o :: t, i + 1, v => lk i o :: lst2 t i v
theorem lk_get {i : Nat} {o : Option Value} {w : Value} (h : lk i o = some w) : o = some w ∧ ¬ (i = 0 ∧ w.category = 2) := by
  cases i with
  | zero =>
    cases o with
    | none => simp [lk] at h
    | some v => cases v <;> simp [lk] at h <;> subst h <;> simp [Value.category]
  | succ i => exact ⟨h, by simp⟩
theorem lget_lst1 : ∀ (lv : List (Option Value)) (i j : Nat) (v w : Value), lget (lst1 lv i v) j = some w → (j = i ∧ w = v) ∨ (j ≠ i ∧ lget lv j = some w ∧ ¬ (j + 1 = i ∧ w.category = 2)) := by
  intro lv
  induction lv with
  | nil => intro i j v w h; simp [lst1, lget] at h
  | cons o t ih =>
    intro i j v w h
    cases i with
    | zero =>
      cases j with
      | zero => simp [lst1, lget] at h; exact Or.inl ⟨rfl, h.symm⟩
      | succ j => exact Or.inr ⟨by omega, h, by omega⟩
    | succ i =>
      cases j with
      | zero =>
        have h1 : lk i o = some w := h
        obtain ⟨h2, h3⟩ := lk_get h1
        exact Or.inr ⟨by omega, h2, fun q => h3 ⟨by omega, q.2⟩⟩
      | succ j =>
        rcases ih i j v w h with ⟨a, b⟩ | ⟨a, b, c⟩
        · exact Or.inl ⟨by omega, b⟩
        · exact Or.inr ⟨by omega, b, fun q => c ⟨by omega, q.2⟩⟩
theorem lget_lst2 : ∀ (lv : List (Option Value)) (i j : Nat) (v w : Value), lget (lst2 lv i v) j = some w → (j = i ∧ w = v) ∨ (j ≠ i ∧ j ≠ i + 1 ∧ lget lv j = some w ∧ ¬ (j + 1 = i ∧ w.category = 2)) := by
  intro lv
  induction lv with
  | nil => intro i j v w h; simp [lst2, lget] at h
  | cons o t ih =>
    intro i j v w h
    cases i with
    | zero =>
      cases j with
      | zero => simp [lst2, lget] at h; exact Or.inl ⟨rfl, h.symm⟩
      | succ j =>
        cases t with
        | nil => simp [lst2, lget, lno] at h
        | cons o2 t2 =>
          cases j with
          | zero => simp [lst2, lget, lno] at h
          | succ j => exact Or.inr ⟨by omega, by omega, h, by omega⟩
    | succ i =>
      cases j with
      | zero =>
        have h1 : lk i o = some w := h
        obtain ⟨h2, h3⟩ := lk_get h1
        exact Or.inr ⟨by omega, by omega, h2, fun q => h3 ⟨by omega, q.2⟩⟩
      | succ j =>
        rcases ih i j v w h with ⟨a, b⟩ | ⟨a, a2, b, c⟩
        · exact Or.inl ⟨by omega, b⟩
        · exact Or.inr ⟨by omega, by omega, b, fun q => c ⟨by omega, q.2⟩⟩
def lvH (ls : Array Slot) (mL : Nat) (lv : List (Option Value)) : Prop := ls.size = mL ∧ lv_wf ls ∧ ∀ (i : Nat) (v : Value), lget lv i = some v → ls[i]? = some (.val v)
def lprs (lv : List (Option Value)) (mL : Nat) : List (Nat × Value) := (List.range mL).filterMap (fun i => (lget lv i).map (fun v => (i, v)))
theorem lprs_mem {lv : List (Option Value)} {mL : Nat} {q : Nat × Value} : q ∈ lprs lv mL ↔ q.1 < mL ∧ lget lv q.1 = some q.2 := by
  obtain ⟨i, v⟩ := q
  simp only [lprs, List.mem_filterMap, List.mem_range, Option.map_eq_some_iff]
  constructor
  · rintro ⟨a, h1, w, h2, h3⟩
    cases h3
    exact ⟨h1, h2⟩
  · rintro ⟨h1, h2⟩
    exact ⟨i, h1, v, h2, rfl⟩
theorem lvH.has {ls : Array Slot} {mL : Nat} {lv : List (Option Value)} (h : lvH ls mL lv) : lv_has ls mL (lprs lv mL) := ⟨h.1, h.2.1, fun q hq => h.2.2 q.1 q.2 (lprs_mem.mp hq).2⟩
theorem lvH.st1 {ls ls' : Array Slot} {mL i : Nat} {v : Value} {lv : List (Option Value)} (h : lvH ls mL lv) (h' : lv_has ls' mL ((i, v) :: (lprs lv mL).filter (fun q => !(q.1 == i) && !(q.1 + 1 == i && q.2.category == 2)))) : lvH ls' mL (lst1 lv i v) := by
  refine ⟨h'.1, h'.2.1, fun j w hj => ?_⟩
  rcases lget_lst1 lv i j v w hj with ⟨rfl, rfl⟩ | ⟨a, b, c⟩
  · exact h'.2.2 (j, w) List.mem_cons_self
  · refine h'.2.2 (j, w) (List.mem_cons_of_mem _ (List.mem_filter.mpr ⟨lprs_mem.mpr ⟨?_, b⟩, ?_⟩))
    · have := (Array.getElem?_eq_some_iff.mp (h.2.2 j w b)).1
      rw [h.1] at this; exact this
    · simp only [Bool.and_eq_true, Bool.not_eq_true', beq_eq_false_iff_ne, Bool.and_eq_false_iff]
      refine ⟨a, ?_⟩
      by_cases hc : j + 1 = i
      · exact Or.inr (fun q => c ⟨hc, q⟩)
      · exact Or.inl hc
theorem lvH.st2 {ls ls' : Array Slot} {mL i : Nat} {v : Value} {lv : List (Option Value)} (h : lvH ls mL lv) (h' : lv_has ls' mL ((i, v) :: (lprs lv mL).filter (fun q => !(q.1 == i) && (!(q.1 == i + 1) && !(q.1 + 1 == i && q.2.category == 2))))) : lvH ls' mL (lst2 lv i v) := by
  refine ⟨h'.1, h'.2.1, fun j w hj => ?_⟩
  rcases lget_lst2 lv i j v w hj with ⟨rfl, rfl⟩ | ⟨a, a2, b, c⟩
  · exact h'.2.2 (j, w) List.mem_cons_self
  · refine h'.2.2 (j, w) (List.mem_cons_of_mem _ (List.mem_filter.mpr ⟨lprs_mem.mpr ⟨?_, b⟩, ?_⟩))
    · have := (Array.getElem?_eq_some_iff.mp (h.2.2 j w b)).1
      rw [h.1] at this; exact this
    · simp only [Bool.and_eq_true, Bool.not_eq_true', beq_eq_false_iff_ne, Bool.and_eq_false_iff]
      refine ⟨a, a2, ?_⟩
      by_cases hc : j + 1 = i
      · exact Or.inr (fun q => c ⟨hc, q⟩)
      · exact Or.inl hc
/-- the locals at a method's entry -/
def linit : List Value → Nat → List (Option Value)
  | [], k => List.replicate k none
  | .long x :: vs, k => some (.long x) :: none :: linit vs (k - 2)
  | .double x :: vs, k => some (.double x) :: none :: linit vs (k - 2)
  | v :: vs, k => some v :: linit vs (k - 1)
theorem lget_rep (k j : Nat) : lget (List.replicate k none) j = none := by
  induction k generalizing j with
  | zero => rfl
  | succ k ih =>
    cases j with
    | zero => rfl
    | succ j => exact ih j
theorem linit_args : ∀ (vs : List Value) (k b j : Nat) (w : Value), lget (linit vs k) j = some w → (b + j, w) ∈ lv_args b vs := by
  intro vs
  induction vs with
  | nil => intro k b j w h; rw [linit, lget_rep] at h; cases h
  | cons v vs ih =>
    intro k b j w h
    have h1 : ∀ (c : Nat), v.category = c → (c = 1 ∨ c = 2) → (c = 1 → lget (some v :: linit vs (k - 1)) j = some w) → (c = 2 → lget (some v :: none :: linit vs (k - 2)) j = some w) → (b + j, w) ∈ lv_args b (v :: vs) := by
      intro c hc h12 g1 g2
      rcases h12 with rfl | rfl
      · have g := g1 rfl
        cases j with
        | zero =>
          cases g
          exact List.mem_cons_self
        | succ j =>
          have := ih (k - 1) (b + 1) j w g
          rw [lv_args, if_neg (by omega)]
          refine List.mem_cons_of_mem _ ?_
          rwa [show b + (j + 1) = b + 1 + j by omega]
      · have g := g2 rfl
        cases j with
        | zero =>
          cases g
          exact List.mem_cons_self
        | succ j =>
          cases j with
          | zero => cases g
          | succ j =>
            have := ih (k - 2) (b + 2) j w g
            rw [lv_args, if_pos hc]
            refine List.mem_cons_of_mem _ ?_
            rwa [show b + (j + 1 + 1) = b + 2 + j by omega]
    cases v with
    | long x => exact h1 2 rfl (Or.inr rfl) (fun q => absurd q (by decide)) (fun _ => h)
    | double x => exact h1 2 rfl (Or.inr rfl) (fun q => absurd q (by decide)) (fun _ => h)
    | _ => exact h1 1 rfl (Or.inl rfl) (fun _ => h) (fun q => absurd q (by decide))
/-! the judgement -/
abbrev eP : Type := Option Value → (Nat → va_E) → Prop
def CX (G : eG) (M : eM) (cc : ByteArray) (p : Program) (R : Room) (s : State) (m : MethodId) (args : Array Value) (c : Code) (A : Nat → Prop) (cells slots : Nat) : Prop :=
  p.tables.exec = Jvm.exec ∧ c.code = cc ∧ c.maxLocals = M.2.1 ∧ s.vm.findClass M.1.cls = some m.cls ∧ (∀ w ∈ eT, w.before args s = true) ∧ va_K G.2.1 vwCl (tysOf G.2.2) s ∧ (∀ q : Nat, s.heap.size ≤ q → A q) ∧ M.2.2.2.1 ≤ R.frames ∧ M.2.2.2.2 ≤ R.locals ∧ cells ≤ R.cells ∧ slots ≤ R.slots ∧ NX s
def retI : Option Value → Instr
  | none => .return_
  | some (.int _) => .ireturn
  | some (.long _) => .lreturn
  | some _ => .areturn
def retOK : Option FieldType → Option Value → Prop
  | none, none => True
  | some .int, some (.int _) => True
  | some .boolean, some (.int x) => narrow .boolean (.int x) = .int x
  | some .long, some (.long _) => True
  | some (.object _), some (.ref _) => True
  | some (.object _), some .null => True
  | _, _ => False
def XX (X : Option (Nat × Nat × (Nat → Int32))) (s : State) (A : Nat → Prop) : Prop := ∀ q, X = some q → va_X q.1 q.2.1 q.2.2 s s.heap ∧ q.1 < s.heap.size ∧ ¬ A q.1
def RT (G : eG) (M : eM) (cc : ByteArray) (ad : Nat → Nat) (n : Nat) (post : eP) (p : Program) (e : Env) (R : Room) (s : State) (m : MethodId) (args : Array Value) (below : List Frame) (meth : Method) (c : Code) (A : Nat → Prop) (cells slots : Nat) (Q : State → Prop) : Prop :=
  ∀ (v : Option Value) (h : Nat → va_E) (H : Heap) (locs : List Loc) (pc : Nat) (ls : Array Slot), post v h → va_P G.2.1 vwCl (wld ad n h) H → va_D A (wld ad n h) → va_S A s.heap H locs → decode cc pc = .ok (retI v, 1) → retOK M.2.2.1 v → W p G.1 e R s m args below meth c H locs cells slots Q (F0 m pc ls v.toList)
def EV (G : eG) (M : eM) (cc : ByteArray) (X : Option (Nat × Nat × (Nat → Int32))) (ad : Nat → Nat) (n : Nat) (post : eP) (pc : Nat) (lv : List (Option Value)) (st : List Value) (h : Nat → va_E) : Prop :=
  ∀ (p : Program) (e : Env) (R : Room) (s : State) (m : MethodId) (args : Array Value) (below : List Frame) (meth : Method) (c : Code) (A : Nat → Prop) (cells slots : Nat) (Q : State → Prop) (H : Heap) (locs : List Loc) (ls : Array Slot),
    CX G M cc p R s m args c A cells slots → XX X s A → RT G M cc ad n post p e R s m args below meth c A cells slots Q → va_P G.2.1 vwCl (wld ad n h) H → va_D A (wld ad n h) → va_S A s.heap H locs → lvH ls M.2.1 lv → W p G.1 e R s m args below meth c H locs cells slots Q (F0 m pc ls st)
def WB (G : eG) (ad : Nat → Nat) (n : Nat) (h : Nat → va_E) (sz : Nat) : State → Prop := fun U => U.heap.size = sz ∧ va_P G.2.1 vwCl (wld ad n h) U.heap ∧ va_K G.2.1 vwCl (tysOf G.2.2) U ∧ va_D (fun _ => True) (wld ad n h) ∧ NX U
def QM (G : eG) (ad : Nat → Nat) (n : Nat) (post : eP) (A : Nat → Prop) : Array Value → State → Outcome → State → Prop := fun _ st oc t => (∃ (v : Option Value) (h' : Nat → va_E), oc = .returned v ∧ post v h' ∧ va_P G.2.1 vwCl (wld ad n h') t.heap ∧ va_K G.2.1 vwCl (tysOf G.2.2) t ∧ va_D A (wld ad n h')) ∧ va_F A st t
def MC (G : eG) (M : eM) (cc : ByteArray) (ad : Nat → Nat) (n : Nat) (av : List Value) (h : Nat → va_E) (post : eP) : Prop :=
  ∀ sz : Nat, Met G.1 M.1 (.code M.1 cc M.2.1 M.2.2.1 :: eT) { frames := M.2.2.2.1, cells := 0, slots := 0, locals := M.2.2.2.2 } (va_Pc av (WB G ad n h sz)) (QM G ad n post (va_A (wld ad n h) sz)) 0 0 (va_A (wld ad n h) sz)
theorem MC.mono {G : eG} {M : eM} {cc : ByteArray} {ad : Nat → Nat} {n : Nat} {av : List Value} {h : Nat → va_E} {post post' : eP} (hM : MC G M cc ad n av h post) (hp : ∀ v h', post v h' → post' v h') : MC G M cc ad n av h post' := by
  intro sz
  exact MetFree.mono (hM sz) (fun _ _ q => q) (fun _ _ _ _ _ q => q) (fun a st o t _ q => ⟨⟨by obtain ⟨⟨⟨v, h', e1, e2, e3⟩, -⟩, -⟩ := q; exact ⟨v, h', e1, hp v h' e2, e3⟩, q.1.2⟩, q.2⟩)

theorem MC.of {G : eG} {M : eM} {cc : ByteArray} {ad : Nat → Nat} {n : Nat} {av : List Value} {h : Nat → va_E} {post : eP} {lv : List (Option Value)} (hy : plainFor M.1 = true) (hlen : (lg_sl av).length ≤ M.2.1) (hlv : linit av M.2.1 = lv) (k : EV G M cc none ad n post 0 lv [] h) : MC G M cc ad n av h post := by
  intro sz
  refine va_MetF (cc := cc) (maxL := M.2.1) (ret := M.2.2.1) hy rfl ?_
  intro p e s m args below meth c s₁ B hml hv
  obtain ⟨rfl, hsz, hP, hK, hD0, hN⟩ := hv
  have hts := atoms_spec (ws := .code M.1 cc M.2.1 M.2.2.1 :: eT) B.pre
  have hown : s.vm.findClass M.1.cls = some m.cls := findClass_of_methodNamed B.named
  have hlocks := B.notSynchronized
  subst hsz
  have hD := hD0.self (sz := s.heap.size)
  have hl := lv_entry av (n := M.2.1) hlen
  rw [lg_entry_eq]
  have hl2 : lvH ((lg_sl av ++ List.replicate (M.2.1 - (lg_sl av).length) Slot.unset).toArray) M.2.1 lv := by
    refine ⟨hl.1, hl.2.1, fun i v hi => ?_⟩
    rw [← hlv] at hi
    have := linit_args av M.2.1 0 i v hi
    rw [Nat.zero_add] at this
    exact hl.2.2 (i, v) this
  generalize (lg_sl av ++ List.replicate (M.2.1 - (lg_sl av).length) Slot.unset).toArray = ls at hl2 ⊢
  refine k p e _ s m _ below meth c (va_A (wld ad n h) s.heap.size) 0 0 _ s.heap [] ls ⟨B.exec, B.bytes, hml, hown, fun w hw => hts w (List.mem_cons_of_mem _ hw), hK, fun q hq => Or.inr hq, Nat.le_refl _, Nat.le_refl _, Nat.zero_le _, Nat.zero_le _, hN⟩ (fun q hq => by cases hq) ?_ hP hD va_S.rf hl2
  intro v h' H locs pc ls' hpost hP' hD' hS' hdec hok
  have hq : ∀ t : State, t.heap = H → s.WarmedH t.vm → QM G ad n post (va_A (wld ad n h) s.heap.size) av.toArray s (.returned v) t := fun t ht hW => ⟨⟨v, h', rfl, hpost, by rw [ht]; exact hP', va_K.moved hW.alike hK, hD'⟩, hS'.F ht⟩
  have hr := B.returns
  match hret : M.2.2.1, v, hok with
  | none, none, _ => exact W.vret B.exec B.bytes (hr.trans hret) hq hS'.2.2 hdec hlocks
  | some .int, some (.int x), _ => exact W.iret B.exec B.bytes (hr.trans hret) hq hS'.2.2 hdec hlocks
  | some .boolean, some (.int x), hn => exact W.zret B.exec B.bytes (hr.trans hret) hn hq hS'.2.2 hdec hlocks
  | some .long, some (.long x), _ => exact W.lret B.exec B.bytes (hr.trans hret) hq hS'.2.2 hdec hlocks
  | some (.object C), some (.ref x), _ => exact W.aret B.exec B.bytes (hr.trans hret) (Or.inl ⟨C, rfl⟩) (Or.inr ⟨x, rfl⟩) hq hS'.2.2 hdec hlocks
  | some (.object C), some .null, _ => exact W.aret B.exec B.bytes (hr.trans hret) (Or.inl ⟨C, rfl⟩) (Or.inl rfl) hq hS'.2.2 hdec hlocks
section EVR
variable {G : eG} {M : eM} {cc : ByteArray} {X : Option (Nat × Nat × (Nat → Int32))} {ad : Nat → Nat} {n : Nat} {post : eP} {pc : Nat} {lv : List (Option Value)} {rest : List Value} {h : Nat → va_E}
theorem EV.eq {pc' : Nat} {lv' : List (Option Value)} {st st' : List Value} {h' : Nat → va_E} (h1 : pc = pc') (h2 : lv = lv') (h3 : st = st') (h4 : h = h') (k : EV G M cc X ad n post pc' lv' st' h') : EV G M cc X ad n post pc lv st h := by
  subst h1; subst h2; subst h3; subst h4; exact k
theorem EV.ret {v : Option Value} (hd : decode cc pc = .ok (retI v, 1)) (hok : retOK M.2.2.1 v) (hp : post v h) : EV G M cc X ad n post pc lv v.toList h := by
  intro p e R s m args below meth c A cells slots Q H locs ls hC hX hR hP hD hS hl
  exact hR v h H locs pc ls hp hP hD hS hd hok
theorem EV.iret {x : Int32} (hd : decode cc pc = .ok (.ireturn, 1)) (hok : retOK M.2.2.1 (some (.int x))) (hp : post (some (.int x)) h) : EV G M cc X ad n post pc lv [.int x] h := EV.ret (v := some (.int x)) hd hok hp
theorem EV.lret {x : Int64} (hd : decode cc pc = .ok (.lreturn, 1)) (hok : retOK M.2.2.1 (some (.long x))) (hp : post (some (.long x)) h) : EV G M cc X ad n post pc lv [.long x] h := EV.ret (v := some (.long x)) hd hok hp
theorem EV.rret {x : Nat} (hd : decode cc pc = .ok (.areturn, 1)) (hok : retOK M.2.2.1 (some (.ref x))) (hp : post (some (.ref x)) h) : EV G M cc X ad n post pc lv [.ref x] h := EV.ret (v := some (.ref x)) hd hok hp
theorem EV.nret (hd : decode cc pc = .ok (.areturn, 1)) (hok : retOK M.2.2.1 (some .null)) (hp : post (some .null) h) : EV G M cc X ad n post pc lv [.null] h := EV.ret (v := some .null) hd hok hp
theorem EV.vret (hd : decode cc pc = .ok (.return_, 1)) (hok : retOK M.2.2.1 none) (hp : post none h) : EV G M cc X ad n post pc lv [] h := EV.ret (v := none) hd hok hp
theorem EV.topi {x y : Int32} (e : x = y) (k : EV G M cc X ad n post pc lv (.int y :: rest) h) : EV G M cc X ad n post pc lv (.int x :: rest) h := by subst e; exact k
theorem EV.topl {x y : Int64} (e : x = y) (k : EV G M cc X ad n post pc lv (.long y :: rest) h) : EV G M cc X ad n post pc lv (.long x :: rest) h := by subst e; exact k
theorem EV.topi2 {x y x2 y2 : Int32} (e : x = y) (e2 : x2 = y2) (k : EV G M cc X ad n post pc lv (.int y :: .int y2 :: rest) h) : EV G M cc X ad n post pc lv (.int x :: .int x2 :: rest) h := by subst e; subst e2; exact k
theorem EV.heap {h' : Nat → va_E} (e : h = h') (k : EV G M cc X ad n post pc lv rest h') : EV G M cc X ad n post pc lv rest h := by subst e; exact k

theorem EV.iadd {x y : Int32} (hd : decode cc pc = .ok (.iadd, 1)) (k : EV G M cc X ad n post (pc + 1) lv (.int (x + y) :: rest) h) : EV G M cc X ad n post pc lv (.int y :: .int x :: rest) h := by
  intro p e R s m args below meth c A cells slots Q H locs ls hC hX hR hP hD hS hl
  exact lv_iadd hC.1 hC.2.1 hd (k p e R s m args below meth c A cells slots Q H locs ls hC hX hR hP hD hS hl)
theorem EV.isub {x y : Int32} (hd : decode cc pc = .ok (.isub, 1)) (k : EV G M cc X ad n post (pc + 1) lv (.int (x - y) :: rest) h) : EV G M cc X ad n post pc lv (.int y :: .int x :: rest) h := by
  intro p e R s m args below meth c A cells slots Q H locs ls hC hX hR hP hD hS hl
  exact lv_isub hC.1 hC.2.1 hd (k p e R s m args below meth c A cells slots Q H locs ls hC hX hR hP hD hS hl)
theorem EV.imul {x y : Int32} (hd : decode cc pc = .ok (.imul, 1)) (k : EV G M cc X ad n post (pc + 1) lv (.int (x * y) :: rest) h) : EV G M cc X ad n post pc lv (.int y :: .int x :: rest) h := by
  intro p e R s m args below meth c A cells slots Q H locs ls hC hX hR hP hD hS hl
  exact lv_imul hC.1 hC.2.1 hd (k p e R s m args below meth c A cells slots Q H locs ls hC hX hR hP hD hS hl)
theorem EV.iand {x y : Int32} (hd : decode cc pc = .ok (.iand, 1)) (k : EV G M cc X ad n post (pc + 1) lv (.int (x &&& y) :: rest) h) : EV G M cc X ad n post pc lv (.int y :: .int x :: rest) h := by
  intro p e R s m args below meth c A cells slots Q H locs ls hC hX hR hP hD hS hl
  exact lv_iand hC.1 hC.2.1 hd (k p e R s m args below meth c A cells slots Q H locs ls hC hX hR hP hD hS hl)
theorem EV.ixor {x y : Int32} (hd : decode cc pc = .ok (.ixor, 1)) (k : EV G M cc X ad n post (pc + 1) lv (.int (x ^^^ y) :: rest) h) : EV G M cc X ad n post pc lv (.int y :: .int x :: rest) h := by
  intro p e R s m args below meth c A cells slots Q H locs ls hC hX hR hP hD hS hl
  exact lv_ixor hC.1 hC.2.1 hd (k p e R s m args below meth c A cells slots Q H locs ls hC hX hR hP hD hS hl)
theorem EV.ladd {x y : Int64} (hd : decode cc pc = .ok (.ladd, 1)) (k : EV G M cc X ad n post (pc + 1) lv (.long (x + y) :: rest) h) : EV G M cc X ad n post pc lv (.long y :: .long x :: rest) h := by
  intro p e R s m args below meth c A cells slots Q H locs ls hC hX hR hP hD hS hl
  exact lv_ladd hC.1 hC.2.1 hd (k p e R s m args below meth c A cells slots Q H locs ls hC hX hR hP hD hS hl)
theorem EV.lsub {x y : Int64} (hd : decode cc pc = .ok (.lsub, 1)) (k : EV G M cc X ad n post (pc + 1) lv (.long (x - y) :: rest) h) : EV G M cc X ad n post pc lv (.long y :: .long x :: rest) h := by
  intro p e R s m args below meth c A cells slots Q H locs ls hC hX hR hP hD hS hl
  exact lv_lsub hC.1 hC.2.1 hd (k p e R s m args below meth c A cells slots Q H locs ls hC hX hR hP hD hS hl)
theorem EV.lmul {x y : Int64} (hd : decode cc pc = .ok (.lmul, 1)) (k : EV G M cc X ad n post (pc + 1) lv (.long (x * y) :: rest) h) : EV G M cc X ad n post pc lv (.long y :: .long x :: rest) h := by
  intro p e R s m args below meth c A cells slots Q H locs ls hC hX hR hP hD hS hl
  exact lv_lmul hC.1 hC.2.1 hd (k p e R s m args below meth c A cells slots Q H locs ls hC hX hR hP hD hS hl)
theorem EV.land {x y : Int64} (hd : decode cc pc = .ok (.land, 1)) (k : EV G M cc X ad n post (pc + 1) lv (.long (x &&& y) :: rest) h) : EV G M cc X ad n post pc lv (.long y :: .long x :: rest) h := by
  intro p e R s m args below meth c A cells slots Q H locs ls hC hX hR hP hD hS hl
  exact lv_land hC.1 hC.2.1 hd (k p e R s m args below meth c A cells slots Q H locs ls hC hX hR hP hD hS hl)
theorem EV.lor {x y : Int64} (hd : decode cc pc = .ok (.lor, 1)) (k : EV G M cc X ad n post (pc + 1) lv (.long (x ||| y) :: rest) h) : EV G M cc X ad n post pc lv (.long y :: .long x :: rest) h := by
  intro p e R s m args below meth c A cells slots Q H locs ls hC hX hR hP hD hS hl
  exact lv_lor hC.1 hC.2.1 hd (k p e R s m args below meth c A cells slots Q H locs ls hC hX hR hP hD hS hl)
theorem EV.lxor {x y : Int64} (hd : decode cc pc = .ok (.lxor, 1)) (k : EV G M cc X ad n post (pc + 1) lv (.long (x ^^^ y) :: rest) h) : EV G M cc X ad n post pc lv (.long y :: .long x :: rest) h := by
  intro p e R s m args below meth c A cells slots Q H locs ls hC hX hR hP hD hS hl
  exact lv_lxor hC.1 hC.2.1 hd (k p e R s m args below meth c A cells slots Q H locs ls hC hX hR hP hD hS hl)
theorem EV.idiv {x y : Int32} (hd : decode cc pc = .ok (.idiv, 1)) (hne : ¬ y = 0) (k : EV G M cc X ad n post (pc + 1) lv (.int (x / y) :: rest) h) : EV G M cc X ad n post pc lv (.int y :: .int x :: rest) h := by
  intro p e R s m args below meth c A cells slots Q H locs ls hC hX hR hP hD hS hl
  exact lv_idiv hC.1 hC.2.1 hd hne (k p e R s m args below meth c A cells slots Q H locs ls hC hX hR hP hD hS hl)
theorem EV.ldiv {x y : Int64} (hd : decode cc pc = .ok (.ldiv, 1)) (hne : ¬ y = 0) (k : EV G M cc X ad n post (pc + 1) lv (.long (x / y) :: rest) h) : EV G M cc X ad n post pc lv (.long y :: .long x :: rest) h := by
  intro p e R s m args below meth c A cells slots Q H locs ls hC hX hR hP hD hS hl
  exact lv_ldiv hC.1 hC.2.1 hd hne (k p e R s m args below meth c A cells slots Q H locs ls hC hX hR hP hD hS hl)
theorem EV.lrem {x y : Int64} (hd : decode cc pc = .ok (.lrem, 1)) (hne : ¬ y = 0) (k : EV G M cc X ad n post (pc + 1) lv (.long (x - x / y * y) :: rest) h) : EV G M cc X ad n post pc lv (.long y :: .long x :: rest) h := by
  intro p e R s m args below meth c A cells slots Q H locs ls hC hX hR hP hD hS hl
  exact lv_lrem hC.1 hC.2.1 hd hne (k p e R s m args below meth c A cells slots Q H locs ls hC hX hR hP hD hS hl)
theorem EV.ineg {x : Int32} (hd : decode cc pc = .ok (.ineg, 1)) (k : EV G M cc X ad n post (pc + 1) lv (.int (-x) :: rest) h) : EV G M cc X ad n post pc lv (.int x :: rest) h := by
  intro p e R s m args below meth c A cells slots Q H locs ls hC hX hR hP hD hS hl
  exact lv_ineg hC.1 hC.2.1 hd (k p e R s m args below meth c A cells slots Q H locs ls hC hX hR hP hD hS hl)
theorem EV.lneg {x : Int64} (hd : decode cc pc = .ok (.lneg, 1)) (k : EV G M cc X ad n post (pc + 1) lv (.long (-x) :: rest) h) : EV G M cc X ad n post pc lv (.long x :: rest) h := by
  intro p e R s m args below meth c A cells slots Q H locs ls hC hX hR hP hD hS hl
  exact lv_lneg hC.1 hC.2.1 hd (k p e R s m args below meth c A cells slots Q H locs ls hC hX hR hP hD hS hl)
theorem EV.lshl {x : Int64} {y : Int32} (hd : decode cc pc = .ok (.lshl, 1)) (k : EV G M cc X ad n post (pc + 1) lv (.long (x <<< (y.toInt64 &&& 63)) :: rest) h) : EV G M cc X ad n post pc lv (.int y :: .long x :: rest) h := by
  intro p e R s m args below meth c A cells slots Q H locs ls hC hX hR hP hD hS hl
  exact lv_lshl hC.1 hC.2.1 hd rfl (k p e R s m args below meth c A cells slots Q H locs ls hC hX hR hP hD hS hl)
theorem EV.i2l {x : Int32} (hd : decode cc pc = .ok (.i2l, 1)) (k : EV G M cc X ad n post (pc + 1) lv (.long x.toInt64 :: rest) h) : EV G M cc X ad n post pc lv (.int x :: rest) h := by
  intro p e R s m args below meth c A cells slots Q H locs ls hC hX hR hP hD hS hl
  exact lv_i2l hC.1 hC.2.1 hd rfl (k p e R s m args below meth c A cells slots Q H locs ls hC hX hR hP hD hS hl)
theorem EV.l2i {x : Int64} (hd : decode cc pc = .ok (.l2i, 1)) (k : EV G M cc X ad n post (pc + 1) lv (.int x.toInt32 :: rest) h) : EV G M cc X ad n post pc lv (.long x :: rest) h := by
  intro p e R s m args below meth c A cells slots Q H locs ls hC hX hR hP hD hS hl
  exact lv_l2i hC.1 hC.2.1 hd rfl (k p e R s m args below meth c A cells slots Q H locs ls hC hX hR hP hD hS hl)
theorem EV.i2b {x : Int32} (hd : decode cc pc = .ok (.i2b, 1)) (k : EV G M cc X ad n post (pc + 1) lv (.int x.toInt8.toInt32 :: rest) h) : EV G M cc X ad n post pc lv (.int x :: rest) h := by
  intro p e R s m args below meth c A cells slots Q H locs ls hC hX hR hP hD hS hl
  exact lv_i2b hC.1 hC.2.1 hd rfl (k p e R s m args below meth c A cells slots Q H locs ls hC hX hR hP hD hS hl)
theorem EV.i2s {x : Int32} (hd : decode cc pc = .ok (.i2s, 1)) (k : EV G M cc X ad n post (pc + 1) lv (.int x.toInt16.toInt32 :: rest) h) : EV G M cc X ad n post pc lv (.int x :: rest) h := by
  intro p e R s m args below meth c A cells slots Q H locs ls hC hX hR hP hD hS hl
  exact lv_i2s hC.1 hC.2.1 hd rfl (k p e R s m args below meth c A cells slots Q H locs ls hC hX hR hP hD hS hl)
theorem EV.iconst {a : Int} {v : Int32} (hd : decode cc pc = .ok (.iconst a, 1)) (hv : Int32.ofInt a = v) (k : EV G M cc X ad n post (pc + 1) lv (.int v :: rest) h) : EV G M cc X ad n post pc lv rest h := by
  intro p e R s m args below meth c A cells slots Q H locs ls hC hX hR hP hD hS hl
  exact lv_iconst hC.1 hC.2.1 hd hv (k p e R s m args below meth c A cells slots Q H locs ls hC hX hR hP hD hS hl)
theorem EV.bipush {a : Int} {v : Int32} (hd : decode cc pc = .ok (.bipush a, 2)) (hv : (Int8.ofInt a).toInt32 = v) (k : EV G M cc X ad n post (pc + 2) lv (.int v :: rest) h) : EV G M cc X ad n post pc lv rest h := by
  intro p e R s m args below meth c A cells slots Q H locs ls hC hX hR hP hD hS hl
  exact lv_bipush hC.1 hC.2.1 hd hv (k p e R s m args below meth c A cells slots Q H locs ls hC hX hR hP hD hS hl)
theorem EV.sipush {a : Int} {v : Int32} (hd : decode cc pc = .ok (.sipush a, 3)) (hv : (Int16.ofInt a).toInt32 = v) (k : EV G M cc X ad n post (pc + 3) lv (.int v :: rest) h) : EV G M cc X ad n post pc lv rest h := by
  intro p e R s m args below meth c A cells slots Q H locs ls hC hX hR hP hD hS hl
  exact lv_sipush hC.1 hC.2.1 hd hv (k p e R s m args below meth c A cells slots Q H locs ls hC hX hR hP hD hS hl)
theorem EV.lconst {a : Fin 2} {v : Int64} (hd : decode cc pc = .ok (.lconst a, 1)) (hv : Int64.ofNat (a : Nat) = v) (k : EV G M cc X ad n post (pc + 1) lv (.long v :: rest) h) : EV G M cc X ad n post pc lv rest h := by
  intro p e R s m args below meth c A cells slots Q H locs ls hC hX hR hP hD hS hl
  exact lv_lconst hC.1 hC.2.1 hd hv (k p e R s m args below meth c A cells slots Q H locs ls hC hX hR hP hD hS hl)
theorem EV.null  (hd : decode cc pc = .ok (.aconst_null, 1)) (k : EV G M cc X ad n post (pc + 1) lv (.null :: rest) h) : EV G M cc X ad n post pc lv rest h := by
  intro p e R s m args below meth c A cells slots Q H locs ls hC hX hR hP hD hS hl
  exact lv_null hC.1 hC.2.1 hd (k p e R s m args below meth c A cells slots Q H locs ls hC hX hR hP hD hS hl)
theorem EV.dup {v : Value} (hd : decode cc pc = .ok (.dup, 1)) (hv : v.category = 1) (k : EV G M cc X ad n post (pc + 1) lv (v :: v :: rest) h) : EV G M cc X ad n post pc lv (v :: rest) h := by
  intro p e R s m args below meth c A cells slots Q H locs ls hC hX hR hP hD hS hl
  exact lv_dup hC.1 hC.2.1 hd hv (k p e R s m args below meth c A cells slots Q H locs ls hC hX hR hP hD hS hl)
theorem EV.dup2i {v w : Value} (hd : decode cc pc = .ok (.dup2, 1)) (hv : v.category = 1) (hw : w.category = 1) (k : EV G M cc X ad n post (pc + 1) lv (v :: w :: v :: w :: rest) h) : EV G M cc X ad n post pc lv (v :: w :: rest) h := by
  intro p e R s m args below meth c A cells slots Q H locs ls hC hX hR hP hD hS hl
  exact lv_dup2_11 hC.1 hC.2.1 hd hv hw (k p e R s m args below meth c A cells slots Q H locs ls hC hX hR hP hD hS hl)
theorem EV.dup2l {v : Value} (hd : decode cc pc = .ok (.dup2, 1)) (hv : v.category = 2) (k : EV G M cc X ad n post (pc + 1) lv (v :: v :: rest) h) : EV G M cc X ad n post pc lv (v :: rest) h := by
  intro p e R s m args below meth c A cells slots Q H locs ls hC hX hR hP hD hS hl
  exact lv_dup2_2 hC.1 hC.2.1 hd hv (k p e R s m args below meth c A cells slots Q H locs ls hC hX hR hP hD hS hl)
theorem EV.ldc {idx : Nat} {v : Int32} (hd : decode cc pc = .ok (.ldc idx, 2)) (hw : Cond.constant M.1.cls idx v ∈ eT) (k : EV G M cc X ad n post (pc + 2) lv (.int v :: rest) h) : EV G M cc X ad n post pc lv rest h := by
  intro p e R s m args below meth c A cells slots Q H locs ls hC hX hR hP hD hS hl
  exact lv_ldc hC.1 hC.2.1 hC.2.2.2.1 (hC.2.2.2.2.1 _ hw) hd (k p e R s m args below meth c A cells slots Q H locs ls hC hX hR hP hD hS hl)
theorem EV.ldc2 {idx : Nat} {v : Int64} (hd : decode cc pc = .ok (.ldc2_w idx, 3)) (hw : Cond.constantLong M.1.cls idx v ∈ eT) (k : EV G M cc X ad n post (pc + 3) lv (.long v :: rest) h) : EV G M cc X ad n post pc lv rest h := by
  intro p e R s m args below meth c A cells slots Q H locs ls hC hX hR hP hD hS hl
  exact lv_ldc2 hC.1 hC.2.1 hC.2.2.2.1 (hC.2.2.2.2.1 _ hw) hd (k p e R s m args below meth c A cells slots Q H locs ls hC hX hR hP hD hS hl)
theorem EV.iload {i : Nat} {x : Int32} (hd : decode cc pc = .ok (.iload i, 2)) (hv : lget lv i = some (.int x)) (k : EV G M cc X ad n post (pc + 2) lv (.int x :: rest) h) : EV G M cc X ad n post pc lv rest h := by
  intro p e R s m args below meth c A cells slots Q H locs ls hC hX hR hP hD hS hl
  exact lv_iload hC.1 hC.2.1 hd (hl.2.2 i _ hv) (k p e R s m args below meth c A cells slots Q H locs ls hC hX hR hP hD hS hl)
theorem EV.iload_n {i : Fin 4} {x : Int32} (hd : decode cc pc = .ok (.iload_n i, 1)) (hv : lget lv (i : Nat) = some (.int x)) (k : EV G M cc X ad n post (pc + 1) lv (.int x :: rest) h) : EV G M cc X ad n post pc lv rest h := by
  intro p e R s m args below meth c A cells slots Q H locs ls hC hX hR hP hD hS hl
  exact lv_iload_n hC.1 hC.2.1 hd rfl (hl.2.2 _ _ hv) (k p e R s m args below meth c A cells slots Q H locs ls hC hX hR hP hD hS hl)
theorem EV.lload {i : Nat} {x : Int64} (hd : decode cc pc = .ok (.lload i, 2)) (hv : lget lv i = some (.long x)) (k : EV G M cc X ad n post (pc + 2) lv (.long x :: rest) h) : EV G M cc X ad n post pc lv rest h := by
  intro p e R s m args below meth c A cells slots Q H locs ls hC hX hR hP hD hS hl
  exact lv_lload hC.1 hC.2.1 hd (hl.2.2 i _ hv) (k p e R s m args below meth c A cells slots Q H locs ls hC hX hR hP hD hS hl)
theorem EV.lload_n {i : Fin 4} {x : Int64} (hd : decode cc pc = .ok (.lload_n i, 1)) (hv : lget lv (i : Nat) = some (.long x)) (k : EV G M cc X ad n post (pc + 1) lv (.long x :: rest) h) : EV G M cc X ad n post pc lv rest h := by
  intro p e R s m args below meth c A cells slots Q H locs ls hC hX hR hP hD hS hl
  exact lv_lload_n hC.1 hC.2.1 hd rfl (hl.2.2 _ _ hv) (k p e R s m args below meth c A cells slots Q H locs ls hC hX hR hP hD hS hl)
theorem EV.aload {i : Nat} {x : Nat} (hd : decode cc pc = .ok (.aload i, 2)) (hv : lget lv i = some (.ref x)) (k : EV G M cc X ad n post (pc + 2) lv (.ref x :: rest) h) : EV G M cc X ad n post pc lv rest h := by
  intro p e R s m args below meth c A cells slots Q H locs ls hC hX hR hP hD hS hl
  exact lv_aload hC.1 hC.2.1 hd (hl.2.2 i _ hv) (k p e R s m args below meth c A cells slots Q H locs ls hC hX hR hP hD hS hl)
theorem EV.aload_n {i : Fin 4} {x : Nat} (hd : decode cc pc = .ok (.aload_n i, 1)) (hv : lget lv (i : Nat) = some (.ref x)) (k : EV G M cc X ad n post (pc + 1) lv (.ref x :: rest) h) : EV G M cc X ad n post pc lv rest h := by
  intro p e R s m args below meth c A cells slots Q H locs ls hC hX hR hP hD hS hl
  exact lv_aload_n hC.1 hC.2.1 hd rfl (hl.2.2 _ _ hv) (k p e R s m args below meth c A cells slots Q H locs ls hC hX hR hP hD hS hl)
theorem EV.aloadN {i : Nat}  (hd : decode cc pc = .ok (.aload i, 2)) (hv : lget lv i = some (.null)) (k : EV G M cc X ad n post (pc + 2) lv (.null :: rest) h) : EV G M cc X ad n post pc lv rest h := by
  intro p e R s m args below meth c A cells slots Q H locs ls hC hX hR hP hD hS hl
  exact lv_aloadN hC.1 hC.2.1 hd (hl.2.2 i _ hv) (k p e R s m args below meth c A cells slots Q H locs ls hC hX hR hP hD hS hl)
theorem EV.aloadN_n {i : Fin 4}  (hd : decode cc pc = .ok (.aload_n i, 1)) (hv : lget lv (i : Nat) = some (.null)) (k : EV G M cc X ad n post (pc + 1) lv (.null :: rest) h) : EV G M cc X ad n post pc lv rest h := by
  intro p e R s m args below meth c A cells slots Q H locs ls hC hX hR hP hD hS hl
  exact lv_aload_nN hC.1 hC.2.1 hd rfl (hl.2.2 _ _ hv) (k p e R s m args below meth c A cells slots Q H locs ls hC hX hR hP hD hS hl)
theorem EV.istore {i : Nat} {x : Int32} {lv' : List (Option Value)} (hd : decode cc pc = .ok (.istore i, 2)) (hn : i < M.2.1) (hv : lst1 lv i (.int x) = lv') (k : EV G M cc X ad n post (pc + 2) lv' rest h) : EV G M cc X ad n post pc lv (.int x :: rest) h := by
  intro p e R s m args below meth c A cells slots Q H locs ls hC hX hR hP hD hS hl
  subst hv
  exact lv_istore hC.1 hC.2.1 hd hl.has hn rfl (fun ls' hl' => (k p e R s m args below meth c A cells slots Q H locs ls' hC hX hR hP hD hS (hl.st1 hl')))
theorem EV.istore_n (i : Nat) {i0 : Fin 4} {x : Int32} {lv' : List (Option Value)} (hd : decode cc pc = .ok (.istore_n i0, 1)) (hi : (i0 : Nat) = i) (hn : i < M.2.1) (hv : lst1 lv i (.int x) = lv') (k : EV G M cc X ad n post (pc + 1) lv' rest h) : EV G M cc X ad n post pc lv (.int x :: rest) h := by
  intro p e R s m args below meth c A cells slots Q H locs ls hC hX hR hP hD hS hl
  subst hv
  exact lv_istore_n hC.1 hC.2.1 hd hi hl.has hn rfl (fun ls' hl' => (k p e R s m args below meth c A cells slots Q H locs ls' hC hX hR hP hD hS (hl.st1 hl')))
theorem EV.lstore {i : Nat} {x : Int64} {lv' : List (Option Value)} (hd : decode cc pc = .ok (.lstore i, 2)) (hn : i + 1 < M.2.1) (hv : lst2 lv i (.long x) = lv') (k : EV G M cc X ad n post (pc + 2) lv' rest h) : EV G M cc X ad n post pc lv (.long x :: rest) h := by
  intro p e R s m args below meth c A cells slots Q H locs ls hC hX hR hP hD hS hl
  subst hv
  exact lv_lstore hC.1 hC.2.1 hd hl.has hn rfl (fun ls' hl' => (k p e R s m args below meth c A cells slots Q H locs ls' hC hX hR hP hD hS (hl.st2 hl')))
theorem EV.lstore_n (i : Nat) {i0 : Fin 4} {x : Int64} {lv' : List (Option Value)} (hd : decode cc pc = .ok (.lstore_n i0, 1)) (hi : (i0 : Nat) = i) (hn : i + 1 < M.2.1) (hv : lst2 lv i (.long x) = lv') (k : EV G M cc X ad n post (pc + 1) lv' rest h) : EV G M cc X ad n post pc lv (.long x :: rest) h := by
  intro p e R s m args below meth c A cells slots Q H locs ls hC hX hR hP hD hS hl
  subst hv
  exact lv_lstore_n hC.1 hC.2.1 hd hi hl.has hn rfl (fun ls' hl' => (k p e R s m args below meth c A cells slots Q H locs ls' hC hX hR hP hD hS (hl.st2 hl')))
theorem EV.astore {i : Nat} {x : Nat} {lv' : List (Option Value)} (hd : decode cc pc = .ok (.astore i, 2)) (hn : i < M.2.1) (hv : lst1 lv i (.ref x) = lv') (k : EV G M cc X ad n post (pc + 2) lv' rest h) : EV G M cc X ad n post pc lv (.ref x :: rest) h := by
  intro p e R s m args below meth c A cells slots Q H locs ls hC hX hR hP hD hS hl
  subst hv
  exact lv_astore hC.1 hC.2.1 hd hl.has hn rfl (fun ls' hl' => (k p e R s m args below meth c A cells slots Q H locs ls' hC hX hR hP hD hS (hl.st1 hl')))
theorem EV.astore_n (i : Nat) {i0 : Fin 4} {x : Nat} {lv' : List (Option Value)} (hd : decode cc pc = .ok (.astore_n i0, 1)) (hi : (i0 : Nat) = i) (hn : i < M.2.1) (hv : lst1 lv i (.ref x) = lv') (k : EV G M cc X ad n post (pc + 1) lv' rest h) : EV G M cc X ad n post pc lv (.ref x :: rest) h := by
  intro p e R s m args below meth c A cells slots Q H locs ls hC hX hR hP hD hS hl
  subst hv
  exact lv_astore_n hC.1 hC.2.1 hd hi hl.has hn rfl (fun ls' hl' => (k p e R s m args below meth c A cells slots Q H locs ls' hC hX hR hP hD hS (hl.st1 hl')))
theorem EV.astoreN {i : Nat}  {lv' : List (Option Value)} (hd : decode cc pc = .ok (.astore i, 2)) (hn : i < M.2.1) (hv : lst1 lv i (.null) = lv') (k : EV G M cc X ad n post (pc + 2) lv' rest h) : EV G M cc X ad n post pc lv (.null :: rest) h := by
  intro p e R s m args below meth c A cells slots Q H locs ls hC hX hR hP hD hS hl
  subst hv
  exact lv_astoreN hC.1 hC.2.1 hd hl.has hn rfl (fun ls' hl' => (k p e R s m args below meth c A cells slots Q H locs ls' hC hX hR hP hD hS (hl.st1 hl')))
theorem EV.astoreN_n (i : Nat) {i0 : Fin 4}  {lv' : List (Option Value)} (hd : decode cc pc = .ok (.astore_n i0, 1)) (hi : (i0 : Nat) = i) (hn : i < M.2.1) (hv : lst1 lv i (.null) = lv') (k : EV G M cc X ad n post (pc + 1) lv' rest h) : EV G M cc X ad n post pc lv (.null :: rest) h := by
  intro p e R s m args below meth c A cells slots Q H locs ls hC hX hR hP hD hS hl
  subst hv
  exact lv_astore_nN hC.1 hC.2.1 hd hi hl.has hn rfl (fun ls' hl' => (k p e R s m args below meth c A cells slots Q H locs ls' hC hX hR hP hD hS (hl.st1 hl')))
theorem EV.iinc {i : Nat} {a : Int} {x y : Int32} {lv' : List (Option Value)} (hd : decode cc pc = .ok (.iinc i a, 3)) (hn : i < M.2.1) (hg : lget lv i = some (.int x)) (hy : x + Int32.ofInt a = y) (hv : lst1 lv i (.int y) = lv') (k : EV G M cc X ad n post (pc + 3) lv' rest h) : EV G M cc X ad n post pc lv rest h := by
  intro p e R s m args below meth c A cells slots Q H locs ls hC hX hR hP hD hS hl
  subst hv
  obtain ⟨j, hj⟩ := List.getElem?_of_mem (lprs_mem.mpr (show (i, Value.int x).1 < M.2.1 ∧ lget lv (i, Value.int x).1 = some (i, Value.int x).2 from ⟨hn, hg⟩))
  exact lv_iinc hC.1 hC.2.1 hd hl.has hj hy hn rfl (fun ls' hl' => (k p e R s m args below meth c A cells slots Q H locs ls' hC hX hR hP hD hS (hl.st1 hl')))
theorem EV.icmp_eq {x y : Int32} {off : Int} {tgt : Nat} (hd : decode cc pc = .ok (.if_icmp .eq off, 3)) (ht : (pc : Int) + off = (tgt : Int)) (kt : x = y → EV G M cc X ad n post tgt lv rest h) (kf : ¬ x = y → EV G M cc X ad n post (pc + 3) lv rest h) : EV G M cc X ad n post pc lv (.int y :: .int x :: rest) h := by
  intro p e R s m args below meth c A cells slots Q H locs ls hC hX hR hP hD hS hl
  exact lv_icmp_eq hC.1 hC.2.1 hd ht (fun q => kt q p e R s m args below meth c A cells slots Q H locs ls hC hX hR hP hD hS hl) (fun q => kf q p e R s m args below meth c A cells slots Q H locs ls hC hX hR hP hD hS hl)
theorem EV.if_eq {x : Int32} {off : Int} {tgt : Nat} (hd : decode cc pc = .ok (.ifCond .eq off, 3)) (ht : (pc : Int) + off = (tgt : Int)) (kt : x = 0 → EV G M cc X ad n post tgt lv rest h) (kf : ¬ x = 0 → EV G M cc X ad n post (pc + 3) lv rest h) : EV G M cc X ad n post pc lv (.int x :: rest) h := by
  intro p e R s m args below meth c A cells slots Q H locs ls hC hX hR hP hD hS hl
  exact lv_if_eq hC.1 hC.2.1 hd ht (fun q => kt q p e R s m args below meth c A cells slots Q H locs ls hC hX hR hP hD hS hl) (fun q => kf q p e R s m args below meth c A cells slots Q H locs ls hC hX hR hP hD hS hl)
theorem EV.lcmp_eq {x y : Int64} {off : Int} {tgt : Nat} (hd0 : decode cc pc = .ok (.lcmp, 1)) (hd : decode cc (pc + 1) = .ok (.ifCond .eq off, 3)) (ht : ((pc + 1 : Nat) : Int) + off = (tgt : Int)) (kt : x = y → EV G M cc X ad n post tgt lv rest h) (kf : ¬ x = y → EV G M cc X ad n post (pc + 4) lv rest h) : EV G M cc X ad n post pc lv (.long y :: .long x :: rest) h := by
  intro p e R s m args below meth c A cells slots Q H locs ls hC hX hR hP hD hS hl
  exact W.lcmp hC.1 hC.2.1 hd0 (EV.if_eq (pc := pc + 1) hd ht (fun q => kt ((lg_cmp_eq x y).mp q)) (fun q => kf (fun z => q ((lg_cmp_eq x y).mpr z))) p e R s m args below meth c A cells slots Q H locs ls hC hX hR hP hD hS hl)
theorem EV.icmp_ne {x y : Int32} {off : Int} {tgt : Nat} (hd : decode cc pc = .ok (.if_icmp .ne off, 3)) (ht : (pc : Int) + off = (tgt : Int)) (kt : ¬ x = y → EV G M cc X ad n post tgt lv rest h) (kf : x = y → EV G M cc X ad n post (pc + 3) lv rest h) : EV G M cc X ad n post pc lv (.int y :: .int x :: rest) h := by
  intro p e R s m args below meth c A cells slots Q H locs ls hC hX hR hP hD hS hl
  exact lv_icmp_ne hC.1 hC.2.1 hd ht (fun q => kt q p e R s m args below meth c A cells slots Q H locs ls hC hX hR hP hD hS hl) (fun q => kf q p e R s m args below meth c A cells slots Q H locs ls hC hX hR hP hD hS hl)
theorem EV.if_ne {x : Int32} {off : Int} {tgt : Nat} (hd : decode cc pc = .ok (.ifCond .ne off, 3)) (ht : (pc : Int) + off = (tgt : Int)) (kt : ¬ x = 0 → EV G M cc X ad n post tgt lv rest h) (kf : x = 0 → EV G M cc X ad n post (pc + 3) lv rest h) : EV G M cc X ad n post pc lv (.int x :: rest) h := by
  intro p e R s m args below meth c A cells slots Q H locs ls hC hX hR hP hD hS hl
  exact lv_if_ne hC.1 hC.2.1 hd ht (fun q => kt q p e R s m args below meth c A cells slots Q H locs ls hC hX hR hP hD hS hl) (fun q => kf q p e R s m args below meth c A cells slots Q H locs ls hC hX hR hP hD hS hl)
theorem EV.lcmp_ne {x y : Int64} {off : Int} {tgt : Nat} (hd0 : decode cc pc = .ok (.lcmp, 1)) (hd : decode cc (pc + 1) = .ok (.ifCond .ne off, 3)) (ht : ((pc + 1 : Nat) : Int) + off = (tgt : Int)) (kt : ¬ x = y → EV G M cc X ad n post tgt lv rest h) (kf : x = y → EV G M cc X ad n post (pc + 4) lv rest h) : EV G M cc X ad n post pc lv (.long y :: .long x :: rest) h := by
  intro p e R s m args below meth c A cells slots Q H locs ls hC hX hR hP hD hS hl
  exact W.lcmp hC.1 hC.2.1 hd0 (EV.if_ne (pc := pc + 1) hd ht (fun q => kt ((not_congr (lg_cmp_eq x y)).mp q)) (fun q => kf ((lg_cmp_eq x y).mp q)) p e R s m args below meth c A cells slots Q H locs ls hC hX hR hP hD hS hl)
theorem EV.icmp_lt {x y : Int32} {off : Int} {tgt : Nat} (hd : decode cc pc = .ok (.if_icmp .lt off, 3)) (ht : (pc : Int) + off = (tgt : Int)) (kt : x < y → EV G M cc X ad n post tgt lv rest h) (kf : ¬ x < y → EV G M cc X ad n post (pc + 3) lv rest h) : EV G M cc X ad n post pc lv (.int y :: .int x :: rest) h := by
  intro p e R s m args below meth c A cells slots Q H locs ls hC hX hR hP hD hS hl
  exact lv_icmp_lt hC.1 hC.2.1 hd ht (fun q => kt q p e R s m args below meth c A cells slots Q H locs ls hC hX hR hP hD hS hl) (fun q => kf q p e R s m args below meth c A cells slots Q H locs ls hC hX hR hP hD hS hl)
theorem EV.if_lt {x : Int32} {off : Int} {tgt : Nat} (hd : decode cc pc = .ok (.ifCond .lt off, 3)) (ht : (pc : Int) + off = (tgt : Int)) (kt : x < 0 → EV G M cc X ad n post tgt lv rest h) (kf : ¬ x < 0 → EV G M cc X ad n post (pc + 3) lv rest h) : EV G M cc X ad n post pc lv (.int x :: rest) h := by
  intro p e R s m args below meth c A cells slots Q H locs ls hC hX hR hP hD hS hl
  exact lv_if_lt hC.1 hC.2.1 hd ht (fun q => kt q p e R s m args below meth c A cells slots Q H locs ls hC hX hR hP hD hS hl) (fun q => kf q p e R s m args below meth c A cells slots Q H locs ls hC hX hR hP hD hS hl)
theorem EV.lcmp_lt {x y : Int64} {off : Int} {tgt : Nat} (hd0 : decode cc pc = .ok (.lcmp, 1)) (hd : decode cc (pc + 1) = .ok (.ifCond .lt off, 3)) (ht : ((pc + 1 : Nat) : Int) + off = (tgt : Int)) (kt : x < y → EV G M cc X ad n post tgt lv rest h) (kf : ¬ x < y → EV G M cc X ad n post (pc + 4) lv rest h) : EV G M cc X ad n post pc lv (.long y :: .long x :: rest) h := by
  intro p e R s m args below meth c A cells slots Q H locs ls hC hX hR hP hD hS hl
  exact W.lcmp hC.1 hC.2.1 hd0 (EV.if_lt (pc := pc + 1) hd ht (fun q => kt ((lg_cmp_lt x y).mp q)) (fun q => kf (fun z => q ((lg_cmp_lt x y).mpr z))) p e R s m args below meth c A cells slots Q H locs ls hC hX hR hP hD hS hl)
theorem EV.icmp_ge {x y : Int32} {off : Int} {tgt : Nat} (hd : decode cc pc = .ok (.if_icmp .ge off, 3)) (ht : (pc : Int) + off = (tgt : Int)) (kt : y ≤ x → EV G M cc X ad n post tgt lv rest h) (kf : ¬ y ≤ x → EV G M cc X ad n post (pc + 3) lv rest h) : EV G M cc X ad n post pc lv (.int y :: .int x :: rest) h := by
  intro p e R s m args below meth c A cells slots Q H locs ls hC hX hR hP hD hS hl
  exact lv_icmp_ge hC.1 hC.2.1 hd ht (fun q => kt q p e R s m args below meth c A cells slots Q H locs ls hC hX hR hP hD hS hl) (fun q => kf q p e R s m args below meth c A cells slots Q H locs ls hC hX hR hP hD hS hl)
theorem EV.if_ge {x : Int32} {off : Int} {tgt : Nat} (hd : decode cc pc = .ok (.ifCond .ge off, 3)) (ht : (pc : Int) + off = (tgt : Int)) (kt : 0 ≤ x → EV G M cc X ad n post tgt lv rest h) (kf : ¬ 0 ≤ x → EV G M cc X ad n post (pc + 3) lv rest h) : EV G M cc X ad n post pc lv (.int x :: rest) h := by
  intro p e R s m args below meth c A cells slots Q H locs ls hC hX hR hP hD hS hl
  exact lv_if_ge hC.1 hC.2.1 hd ht (fun q => kt q p e R s m args below meth c A cells slots Q H locs ls hC hX hR hP hD hS hl) (fun q => kf q p e R s m args below meth c A cells slots Q H locs ls hC hX hR hP hD hS hl)
theorem EV.lcmp_ge {x y : Int64} {off : Int} {tgt : Nat} (hd0 : decode cc pc = .ok (.lcmp, 1)) (hd : decode cc (pc + 1) = .ok (.ifCond .ge off, 3)) (ht : ((pc + 1 : Nat) : Int) + off = (tgt : Int)) (kt : y ≤ x → EV G M cc X ad n post tgt lv rest h) (kf : ¬ y ≤ x → EV G M cc X ad n post (pc + 4) lv rest h) : EV G M cc X ad n post pc lv (.long y :: .long x :: rest) h := by
  intro p e R s m args below meth c A cells slots Q H locs ls hC hX hR hP hD hS hl
  exact W.lcmp hC.1 hC.2.1 hd0 (EV.if_ge (pc := pc + 1) hd ht (fun q => kt ((lg_cmp_ge x y).mp q)) (fun q => kf (fun z => q ((lg_cmp_ge x y).mpr z))) p e R s m args below meth c A cells slots Q H locs ls hC hX hR hP hD hS hl)
theorem EV.icmp_gt {x y : Int32} {off : Int} {tgt : Nat} (hd : decode cc pc = .ok (.if_icmp .gt off, 3)) (ht : (pc : Int) + off = (tgt : Int)) (kt : y < x → EV G M cc X ad n post tgt lv rest h) (kf : ¬ y < x → EV G M cc X ad n post (pc + 3) lv rest h) : EV G M cc X ad n post pc lv (.int y :: .int x :: rest) h := by
  intro p e R s m args below meth c A cells slots Q H locs ls hC hX hR hP hD hS hl
  exact lv_icmp_gt hC.1 hC.2.1 hd ht (fun q => kt q p e R s m args below meth c A cells slots Q H locs ls hC hX hR hP hD hS hl) (fun q => kf q p e R s m args below meth c A cells slots Q H locs ls hC hX hR hP hD hS hl)
theorem EV.if_gt {x : Int32} {off : Int} {tgt : Nat} (hd : decode cc pc = .ok (.ifCond .gt off, 3)) (ht : (pc : Int) + off = (tgt : Int)) (kt : 0 < x → EV G M cc X ad n post tgt lv rest h) (kf : ¬ 0 < x → EV G M cc X ad n post (pc + 3) lv rest h) : EV G M cc X ad n post pc lv (.int x :: rest) h := by
  intro p e R s m args below meth c A cells slots Q H locs ls hC hX hR hP hD hS hl
  exact lv_if_gt hC.1 hC.2.1 hd ht (fun q => kt q p e R s m args below meth c A cells slots Q H locs ls hC hX hR hP hD hS hl) (fun q => kf q p e R s m args below meth c A cells slots Q H locs ls hC hX hR hP hD hS hl)
theorem EV.lcmp_gt {x y : Int64} {off : Int} {tgt : Nat} (hd0 : decode cc pc = .ok (.lcmp, 1)) (hd : decode cc (pc + 1) = .ok (.ifCond .gt off, 3)) (ht : ((pc + 1 : Nat) : Int) + off = (tgt : Int)) (kt : y < x → EV G M cc X ad n post tgt lv rest h) (kf : ¬ y < x → EV G M cc X ad n post (pc + 4) lv rest h) : EV G M cc X ad n post pc lv (.long y :: .long x :: rest) h := by
  intro p e R s m args below meth c A cells slots Q H locs ls hC hX hR hP hD hS hl
  exact W.lcmp hC.1 hC.2.1 hd0 (EV.if_gt (pc := pc + 1) hd ht (fun q => kt ((lg_cmp_gt x y).mp q)) (fun q => kf (fun z => q ((lg_cmp_gt x y).mpr z))) p e R s m args below meth c A cells slots Q H locs ls hC hX hR hP hD hS hl)
theorem EV.icmp_le {x y : Int32} {off : Int} {tgt : Nat} (hd : decode cc pc = .ok (.if_icmp .le off, 3)) (ht : (pc : Int) + off = (tgt : Int)) (kt : x ≤ y → EV G M cc X ad n post tgt lv rest h) (kf : ¬ x ≤ y → EV G M cc X ad n post (pc + 3) lv rest h) : EV G M cc X ad n post pc lv (.int y :: .int x :: rest) h := by
  intro p e R s m args below meth c A cells slots Q H locs ls hC hX hR hP hD hS hl
  exact lv_icmp_le hC.1 hC.2.1 hd ht (fun q => kt q p e R s m args below meth c A cells slots Q H locs ls hC hX hR hP hD hS hl) (fun q => kf q p e R s m args below meth c A cells slots Q H locs ls hC hX hR hP hD hS hl)
theorem EV.if_le {x : Int32} {off : Int} {tgt : Nat} (hd : decode cc pc = .ok (.ifCond .le off, 3)) (ht : (pc : Int) + off = (tgt : Int)) (kt : x ≤ 0 → EV G M cc X ad n post tgt lv rest h) (kf : ¬ x ≤ 0 → EV G M cc X ad n post (pc + 3) lv rest h) : EV G M cc X ad n post pc lv (.int x :: rest) h := by
  intro p e R s m args below meth c A cells slots Q H locs ls hC hX hR hP hD hS hl
  exact lv_if_le hC.1 hC.2.1 hd ht (fun q => kt q p e R s m args below meth c A cells slots Q H locs ls hC hX hR hP hD hS hl) (fun q => kf q p e R s m args below meth c A cells slots Q H locs ls hC hX hR hP hD hS hl)
theorem EV.lcmp_le {x y : Int64} {off : Int} {tgt : Nat} (hd0 : decode cc pc = .ok (.lcmp, 1)) (hd : decode cc (pc + 1) = .ok (.ifCond .le off, 3)) (ht : ((pc + 1 : Nat) : Int) + off = (tgt : Int)) (kt : x ≤ y → EV G M cc X ad n post tgt lv rest h) (kf : ¬ x ≤ y → EV G M cc X ad n post (pc + 4) lv rest h) : EV G M cc X ad n post pc lv (.long y :: .long x :: rest) h := by
  intro p e R s m args below meth c A cells slots Q H locs ls hC hX hR hP hD hS hl
  exact W.lcmp hC.1 hC.2.1 hd0 (EV.if_le (pc := pc + 1) hd ht (fun q => kt ((lg_cmp_le x y).mp q)) (fun q => kf (fun z => q ((lg_cmp_le x y).mpr z))) p e R s m args below meth c A cells slots Q H locs ls hC hX hR hP hD hS hl)
theorem EV.goto {off : Int} {tgt : Nat} (hd : decode cc pc = .ok (.goto off, 3)) (ht : (pc : Int) + off = (tgt : Int)) (k : EV G M cc X ad n post tgt lv rest h) : EV G M cc X ad n post pc lv rest h := by
  intro p e R s m args below meth c A cells slots Q H locs ls hC hX hR hP hD hS hl
  exact lv_goto hC.1 hC.2.1 hd ht (k p e R s m args below meth c A cells slots Q H locs ls hC hX hR hP hD hS hl)
theorem EV.ifnonnull {x : Nat} {off : Int} {tgt : Nat} (hd : decode cc pc = .ok (.ifnonnull off, 3)) (ht : (pc : Int) + off = (tgt : Int)) (k : EV G M cc X ad n post tgt lv rest h) : EV G M cc X ad n post pc lv (.ref x :: rest) h := by
  intro p e R s m args below meth c A cells slots Q H locs ls hC hX hR hP hD hS hl
  exact lv_ifnonnull hC.1 hC.2.1 hd ht (k p e R s m args below meth c A cells slots Q H locs ls hC hX hR hP hD hS hl)
theorem EV.ifnonnullN {off : Int} (hd : decode cc pc = .ok (.ifnonnull off, 3)) (k : EV G M cc X ad n post (pc + 3) lv rest h) : EV G M cc X ad n post pc lv (.null :: rest) h := by
  intro p e R s m args below meth c A cells slots Q H locs ls hC hX hR hP hD hS hl
  exact lv_ifnonnullN hC.1 hC.2.1 hd (k p e R s m args below meth c A cells slots Q H locs ls hC hX hR hP hD hS hl)
theorem EV.ifnull {x : Nat} {off : Int} (hd : decode cc pc = .ok (.ifnull off, 3)) (k : EV G M cc X ad n post (pc + 3) lv rest h) : EV G M cc X ad n post pc lv (.ref x :: rest) h := by
  intro p e R s m args below meth c A cells slots Q H locs ls hC hX hR hP hD hS hl
  exact lv_ifnull hC.1 hC.2.1 hd (k p e R s m args below meth c A cells slots Q H locs ls hC hX hR hP hD hS hl)
theorem EV.ifnullN {off : Int} {tgt : Nat} (hd : decode cc pc = .ok (.ifnull off, 3)) (ht : (pc : Int) + off = (tgt : Int)) (k : EV G M cc X ad n post tgt lv rest h) : EV G M cc X ad n post pc lv (.null :: rest) h := by
  intro p e R s m args below meth c A cells slots Q H locs ls hC hX hR hP hD hS hl
  exact lv_ifnullN hC.1 hC.2.1 hd ht (k p e R s m args below meth c A cells slots Q H locs ls hC hX hR hP hD hS hl)
theorem EV.tin {dflt lo hi : Int} {offs : Array Int} {len : Nat} {x : Int32} {off : Int} {tgt : Nat} (hd : decode cc pc = .ok (.tableswitch dflt lo hi offs, len)) (h1 : ¬ x.toInt < lo) (h2 : ¬ hi < x.toInt) (ho : offs[(x.toInt - lo).toNat]? = some off) (ht : (pc : Int) + off = (tgt : Int)) (k : EV G M cc X ad n post tgt lv rest h) : EV G M cc X ad n post pc lv (.int x :: rest) h := by
  intro p e R s m args below meth c A cells slots Q H locs ls hC hX hR hP hD hS hl
  exact lv_tableIn hC.1 hC.2.1 hd h1 h2 ho ht (k p e R s m args below meth c A cells slots Q H locs ls hC hX hR hP hD hS hl)
theorem EV.tout {dflt lo hi : Int} {offs : Array Int} {len : Nat} {x : Int32} {tgt : Nat} (hd : decode cc pc = .ok (.tableswitch dflt lo hi offs, len)) (h1 : x.toInt < lo ∨ hi < x.toInt) (ht : (pc : Int) + dflt = (tgt : Int)) (k : EV G M cc X ad n post tgt lv rest h) : EV G M cc X ad n post pc lv (.int x :: rest) h := by
  intro p e R s m args below meth c A cells slots Q H locs ls hC hX hR hP hD hS hl
  exact lv_tableOut hC.1 hC.2.1 hd h1 ht (k p e R s m args below meth c A cells slots Q H locs ls hC hX hR hP hD hS hl)
theorem EV.iald {q z : Nat} {f : Nat → Int32} {i : Int32} (hd : decode cc pc = .ok (.iaload, 1)) (hq : q < n) (hh : h q = .inl (G.2.2 0, z, .inl f)) (hi : vp_in i z) (k : EV G M cc X ad n post (pc + 1) lv (.int (f i.toNatClampNeg) :: rest) h) : EV G M cc X ad n post pc lv (.int i :: .ref (ad q) :: rest) h := by
  intro p e R s m args below meth c A cells slots Q H locs ls hC hX hR hP hD hS hl
  exact va_iald hC.1 hC.2.1 hC.2.2.2.2.2.1 hP q 0 (wld_get' hq hh) rfl hi hd (k p e R s m args below meth c A cells slots Q H locs ls hC hX hR hP hD hS hl)
theorem EV.zald {q z : Nat} {f : Nat → Int32} {i : Int32} (hd : decode cc pc = .ok (.baload, 1)) (hq : q < n) (hh : h q = .inl (G.2.2 2, z, .inl f)) (hi : vp_in i z) (k : EV G M cc X ad n post (pc + 1) lv (.int (f i.toNatClampNeg) :: rest) h) : EV G M cc X ad n post pc lv (.int i :: .ref (ad q) :: rest) h := by
  intro p e R s m args below meth c A cells slots Q H locs ls hC hX hR hP hD hS hl
  exact va_zald hC.1 hC.2.1 hC.2.2.2.2.2.1 hP q 2 (wld_get' hq hh) rfl hi hd (k p e R s m args below meth c A cells slots Q H locs ls hC hX hR hP hD hS hl)
theorem EV.lald {q z : Nat} {f : Nat → Int64} {i : Int32} (hd : decode cc pc = .ok (.laload, 1)) (hq : q < n) (hh : h q = .inl (G.2.2 1, z, .inr (.inl f))) (hi : vp_in i z) (k : EV G M cc X ad n post (pc + 1) lv (.long (f i.toNatClampNeg) :: rest) h) : EV G M cc X ad n post pc lv (.int i :: .ref (ad q) :: rest) h := by
  intro p e R s m args below meth c A cells slots Q H locs ls hC hX hR hP hD hS hl
  exact va_lald hC.1 hC.2.1 hC.2.2.2.2.2.1 hP q 1 (wld_get' hq hh) rfl hi hd (k p e R s m args below meth c A cells slots Q H locs ls hC hX hR hP hD hS hl)
theorem EV.aald {q z t0 : Nat} {C : String} {cA : ClassId} {f : Nat → Option Nat} {i : Int32} (hd : decode cc pc = .ok (.aaload, 1)) (ht : (tysOf G.2.2)[t0]? = some (cA, .object C)) (hq : q < n) (hh : h q = .inl (cA, z, .inr (.inr (.inr (.inr f))))) (hi : vp_in i z) {v : Value} (hv : va_rf (f i.toNatClampNeg) = v) (k : EV G M cc X ad n post (pc + 1) lv (v :: rest) h) : EV G M cc X ad n post pc lv (.int i :: .ref (ad q) :: rest) h := by
  intro p e R s m args below meth c A cells slots Q H locs ls hC hX hR hP hD hS hl
  subst hv
  exact va_aldq hC.1 hC.2.1 hC.2.2.2.2.2.1 hP q t0 (wld_get' hq hh) ht hi hd (k p e R s m args below meth c A cells slots Q H locs ls hC hX hR hP hD hS hl)
theorem EV.iast {q z : Nat} {f : Nat → Int32} {i : Int32} {x : Int32} (hd : decode cc pc = .ok (.iastore, 1)) (hq : q < n) (hh : h q = .inl (G.2.2 0, z, .inl f)) (hi : vp_in i z) (k : EV G M cc X ad n post (pc + 1) lv rest (va_up h q (.inl (G.2.2 0, z, .inl (upd f i.toNatClampNeg x))))) : EV G M cc X ad n post pc lv (.int x :: .int i :: .ref (ad q) :: rest) h := by
  intro p e R s m args below meth c A cells slots Q H locs ls hC hX hR hP hD hS hl
  exact va_iast hC.1 hC.2.1 hC.2.2.2.2.2.1 hP hD hS q 0 (wld_get' hq hh) rfl hi hd (fun H1 locs1 hP1 hD1 hS1 => (k p e R s m args below meth c A cells slots Q H1 locs1 ls hC hX hR (by rw [wld_set] at hP1; exact hP1) (by rw [wld_set] at hD1; exact hD1) hS1 hl))
theorem EV.zast {q z : Nat} {f : Nat → Int32} {i : Int32} {x : Int32} (hd : decode cc pc = .ok (.bastore, 1)) (hq : q < n) (hh : h q = .inl (G.2.2 2, z, .inl f)) (hi : vp_in i z) (k : EV G M cc X ad n post (pc + 1) lv rest (va_up h q (.inl (G.2.2 2, z, .inl (upd f i.toNatClampNeg (vp_nar .boolean x)))))) : EV G M cc X ad n post pc lv (.int x :: .int i :: .ref (ad q) :: rest) h := by
  intro p e R s m args below meth c A cells slots Q H locs ls hC hX hR hP hD hS hl
  exact va_zast hC.1 hC.2.1 hC.2.2.2.2.2.1 hP hD hS q 2 (wld_get' hq hh) rfl hi hd (fun H1 locs1 hP1 hD1 hS1 => (k p e R s m args below meth c A cells slots Q H1 locs1 ls hC hX hR (by rw [wld_set] at hP1; exact hP1) (by rw [wld_set] at hD1; exact hD1) hS1 hl))
theorem EV.last {q z : Nat} {f : Nat → Int64} {i : Int32} {x : Int64} (hd : decode cc pc = .ok (.lastore, 1)) (hq : q < n) (hh : h q = .inl (G.2.2 1, z, .inr (.inl f))) (hi : vp_in i z) (k : EV G M cc X ad n post (pc + 1) lv rest (va_up h q (.inl (G.2.2 1, z, .inr (.inl (vp_updL f i.toNatClampNeg x)))))) : EV G M cc X ad n post pc lv (.long x :: .int i :: .ref (ad q) :: rest) h := by
  intro p e R s m args below meth c A cells slots Q H locs ls hC hX hR hP hD hS hl
  exact va_last hC.1 hC.2.1 hC.2.2.2.2.2.1 hP hD hS q 1 (wld_get' hq hh) rfl hi hd (fun H1 locs1 hP1 hD1 hS1 => (k p e R s m args below meth c A cells slots Q H1 locs1 ls hC hX hR (by rw [wld_set] at hP1; exact hP1) (by rw [wld_set] at hD1; exact hD1) hS1 hl))
theorem EV.alen {q t0 : Nat} {cA : ClassId} {x : vp_A} {ty : FieldType} {v : Int32} (hd : decode cc pc = .ok (.arraylength, 1)) (ht : (tysOf G.2.2)[t0]? = some (cA, ty)) (hq : q < n) (hh : h q = .inl (cA, x)) (hv : Int32.ofNat x.1 = v) (k : EV G M cc X ad n post (pc + 1) lv (.int v :: rest) h) : EV G M cc X ad n post pc lv (.ref (ad q) :: rest) h := by
  intro p e R s m args below meth c A cells slots Q H locs ls hC hX hR hP hD hS hl
  exact va_alen hC.1 hC.2.1 hC.2.2.2.2.2.1 hP q t0 (wld_get' hq hh) ht hv hd (k p e R s m args below meth c A cells slots Q H locs ls hC hX hR hP hD hS hl)
theorem EV.sld {b L : Nat} {xs : Nat → Int32} {i : Int32} (hd : decode cc pc = .ok (.iaload, 1)) (hi : vp_in i L) (k : EV G M cc (some (b, L, xs)) ad n post (pc + 1) lv (.int (xs i.toNatClampNeg) :: rest) h) : EV G M cc (some (b, L, xs)) ad n post pc lv (.int i :: .ref b :: rest) h := by
  intro p e R s m args below meth c A cells slots Q H locs ls hC hX hR hP hD hS hl
  obtain ⟨x1, x2, x3⟩ := hX _ rfl
  exact va_sld hC.1 hC.2.1 x1 x2 x3 hS hi hd (k p e R s m args below meth c A cells slots Q H locs ls hC hX hR hP hD hS hl)
theorem EV.slen {b L : Nat} {xs : Nat → Int32} (hd : decode cc pc = .ok (.arraylength, 1)) (k : EV G M cc (some (b, L, xs)) ad n post (pc + 1) lv (.int (Int32.ofNat L) :: rest) h) : EV G M cc (some (b, L, xs)) ad n post pc lv (.ref b :: rest) h := by
  intro p e R s m args below meth c A cells slots Q H locs ls hC hX hR hP hD hS hl
  obtain ⟨x1, x2, x3⟩ := hX _ rfl
  exact va_slen hC.1 hC.2.1 x1 x2 x3 hS hd (k p e R s m args below meth c A cells slots Q H locs ls hC hX hR hP hD hS hl)

theorem EV.getf {idx ci f q : Nat} {fs : List Value} {v : Value} (hd : decode cc pc = .ok (.getfield idx, 3)) (hf : okF M.1.cls idx ci f) (hq : q < n) (hh : h q = .inr (ci, fs)) (hv : fs[f]? = some v) (k : EV G M cc X ad n post (pc + 3) lv (v :: rest) h) : EV G M cc X ad n post pc lv (.ref (ad q) :: rest) h := by
  intro p e R s m args below meth c A cells slots Q H locs ls hC hX hR hP hD hS hl
  obtain ⟨C, T, N, f1, f2, f3, f4, f5⟩ := hf
  exact va_get hC.1 hC.2.1 hC.2.2.2.2.1 f3 hC.2.2.2.1 hC.2.2.2.2.2.1 hP q (wld_get' hq hh) f1 f f2 (hC.2.2.2.2.1 _ f4) (fun x hx => by rw [f5] at hx; exact hx) hv hd (k p e R s m args below meth c A cells slots Q H locs ls hC hX hR hP hD hS hl)
theorem EV.putf {idx ci f q : Nat} {fs : List Value} {v : Value} {ty : FieldType} (hd : decode cc pc = .ok (.putfield idx, 3)) (hf : okP M.1.cls idx ci f ty) (hq : q < n) (hh : h q = .inr (ci, fs)) (hn : narrow ty v = v) (hfit : fits ty v = true) (hl0 : f < fs.length) (k : EV G M cc X ad n post (pc + 3) lv rest (va_up h q (.inr (ci, fs.set f v)))) : EV G M cc X ad n post pc lv (v :: .ref (ad q) :: rest) h := by
  intro p e R s m args below meth c A cells slots Q H locs ls hC hX hR hP hD hS hl
  obtain ⟨C, T, N, ty0, f1, f2, f3, f4, f5, f6, f7, f8, f9⟩ := hf
  exact va_put hC.1 hC.2.1 hC.2.2.2.2.1 f3 ty0 f6 f7 hC.2.2.2.1 hC.2.2.2.2.2.1 hP hD hS q (wld_get' hq hh) f1 f f2 (hC.2.2.2.2.1 _ f4) (fun x hx => by rw [f5] at hx; exact hx) f8 f9 hn hfit hl0 hd (fun H1 locs1 hP1 hD1 hS1 => (k p e R s m args below meth c A cells slots Q H1 locs1 ls hC hX hR (by rw [wld_set] at hP1; exact hP1) (by rw [wld_set] at hD1; exact hD1) hS1 hl))
theorem lw_good : eT.all goodWord = true := List.all_eq_true.mpr (fun w hw => (List.mem_filter.mp hw).2)
theorem lw_goodIn {y : MethodName} {cc : ByteArray} {mL : Nat} {ret : Option FieldType} (h : Cond.code y cc mL ret ∈ eT) : GoodIn eT (.code y cc mL ret :: eT) := by
  intro w hw
  have hm : w ∈ eT := by
    rcases List.mem_cons.mp hw with rfl | hw
    · exact h
    · exact hw
  exact ⟨hm, good_of_word (List.all_eq_true.mp lw_good w hm)⟩
theorem EV.callB {M' : eM} {cc' : ByteArray} {a idx : Nat} {R : Room} {s : State} {args : Array Value} {own : String} (hts : ∀ w ∈ eT, w.before args s = true) (ho : okC M' cc' a) (hlk : Cond.methodLink own idx M'.1 ∈ eT) (h1 : M'.2.2.2.1 + 1 ≤ R.frames) (h2 : 8 + (M'.2.1 + 11) + M'.2.2.2.2 ≤ R.locals) : CallB R s args own idx M'.1 cc' M'.2.1 M'.2.2.1 (.code M'.1 cc' M'.2.1 M'.2.2.1 :: eT) { frames := M'.2.2.2.1, cells := 0, slots := 0, locals := M'.2.2.2.2 } 0 0 a :=
  callB_of a hts (lw_goodIn ho.2.1) rfl rfl rfl (hts _ ho.1) (hts _ hlk) ⟨ho.2.2.1.1, ho.2.2.1.2, ho.2.2.2⟩ ⟨h1, h2⟩
theorem va_callg {p : Program} {l : Launch} {e : Env} {R : Room} {s : State} {m : MethodId} {args : Array Value} {below : List Frame} {meth : Method} {c : Code} {H : Heap} {locs : List Loc} {cells slots mc ms : Nat} {Q : State → Prop} {pc : Nat} {ls : Array Slot} {rest st0 : List Value} {a : Array Value} {A0 A1 : Nat → Prop} {H0 : Heap} {free : Addr → Prop} {G : eG} {ad : Nat → Nat} {n : Nat} {post : eP}
    (hr : va_Run p l e R s m args below meth c H locs cells slots mc ms (F0 m pc ls st0) rest (QM G ad n post A1 a) free) (hS : va_S A0 H0 H locs) (hA : ∀ q, q < H.size → A1 q → A0 q) (hA2 : ∀ q, A1 q → A0 q) (hf : ∀ q, free q → A0 q)
    (kk : ∀ (v : Option Value) (h' : Nat → va_E) (H1 : Heap) (locs1 : List Loc), post v h' → va_P G.2.1 vwCl (wld ad n h') H1 → va_D A0 (wld ad n h') → va_S A0 H0 H1 locs1 → W p l e R s m args below meth c H1 locs1 (cells + mc) (slots + ms) Q (F0 m (pc + 3) ls (v.toList ++ rest))) : W p l e R s m args below meth c H locs cells slots Q (F0 m pc ls st0) := by
  intro T hT Y
  obtain ⟨v, st₀, t, T', L, h0, X', hL, e1, e2, ⟨⟨v', h', hv, hp, hb, hk', hd'⟩, hz, hk⟩, st⟩ := hr T hT Y
  cases hv
  rw [h0] at hz hk
  obtain ⟨t2, a1, b1⟩ := kk v h' T'.heap (locs ++ L) hp (by rw [e1]; exact hb) (hd'.weaken (fun _ q _ hq => hA2 q.1 hq))
    ⟨Nat.le_trans hS.1 (by rw [e1]; exact hz), fun q h1 h2 => by rw [e1, hk q (Nat.lt_of_lt_of_le h1 hS.1) (fun z => h2 (hA q (Nat.lt_of_lt_of_le h1 hS.1) z))]; exact hS.2.1 q h1 h2, fun q hq => by
      rcases List.mem_append.mp hq with h | h
      · exact hS.2.2 q h
      · exact hf _ (hL q h)⟩ T' rfl X'
  exact ⟨t2, st t2 a1, b1⟩
theorem WB.blind {G : eG} {ad : Nat → Nat} {n : Nat} {h : Nat → va_E} {sz : Nat} {av : List Value} : FrameBlind (va_Pc av (WB G ad n h sz)) := by
  intro a U g mk q
  obtain ⟨q0, q1, qP, qK, qD, qN⟩ := q
  exact ⟨q0, q1, qP, va_K.moved (u := U) (U := U.calling g mk a) (Vm.Alike.refl U.vm) qK, qD, NX.same (u := U) (U := U.calling g mk a) rfl qN⟩
theorem wld_free {A : Nat → Prop} {ad : Nat → Nat} {n : Nat} {h : Nat → va_E} {H0 H : Heap} {locs : List Loc} (hD : va_D A (wld ad n h)) (hS : va_S A H0 H locs) (hA : ∀ q, H0.size ≤ q → A q) : ∀ q, va_A (wld ad n h) H.size q → A q := by
  intro q hq
  rcases hq with ⟨k, e, hk⟩ | hq
  · exact hD.2 k _ hk
  · exact hA q (Nat.le_trans hS.1 hq)
theorem EV.callV {M' : eM} {cc' : ByteArray} {post' : eP} {idx a q ci : Nat} {fs As : List Value} {st : List Value} (hd : decode cc pc = .ok (.invokevirtual idx, 3)) (hlk : Cond.methodLink M.1.cls idx M'.1 ∈ eT) (ho : okV M' cc' a ci) (hM : MC G M' cc' ad n (.ref (ad q) :: As) h post') (hR : M'.2.2.2.1 + 1 ≤ M.2.2.2.1 ∧ 8 + (M'.2.1 + 11) + M'.2.2.2.2 ≤ M.2.2.2.2) (ha : As.length = a) (hst : st = As.reverse ++ .ref (ad q) :: rest) (hw : (rest.map fun v => v.category).sum ≤ 8) (hq : q < n) (hh : h q = .inr (ci, fs)) (k : ∀ v h', post' v h' → EV G M cc X ad n post (pc + 3) lv (v.toList ++ rest) h') : EV G M cc X ad n post pc lv st h := by
  intro p e R s m args below meth c A cells slots Q H locs ls hC hX hRt hP hD hS hl
  obtain ⟨o1, o2, o3, T, N, o4⟩ := ho
  have hF := wld_free hD hS hC.2.2.2.2.2.2.1
  refine va_callg (va_runV (As := As) (rest := rest) ⟨hC.1, hC.2.1, hC.2.2.1, hC.2.2.2.1, hC.2.2.2.2.1⟩ (hM H.size) ⟨EV.callB hC.2.2.2.2.1 o1 hlk (Nat.le_trans hR.1 hC.2.2.2.2.2.2.2.1) (Nat.le_trans hR.2 hC.2.2.2.2.2.2.2.2.1), hC.2.2.2.2.1 _ o2, hC.2.2.2.2.1 _ o3⟩ ⟨WB.blind, va_recv hC.2.2.2.2.2.1 hP o4 (wld_get' hq hh), fun U hU hW => ⟨rfl, by rw [hU], by rw [hU]; exact hP, va_K.moved hW.alike hC.2.2.2.2.2.1, hD.weaken (fun _ _ _ _ => trivial), hC.2.2.2.2.2.2.2.2.2.2.2.warm hW⟩⟩ rfl ha hl.1 hst (lv_room hw) hd ⟨hC.2.2.2.2.2.2.2.2.2.1, hC.2.2.2.2.2.2.2.2.2.2.1⟩) hS (fun q _ hq => hF q hq) hF hF (fun v h' H1 locs1 hp hP1 hD1 hS1 => ?_)
  exact k v h' hp p e R s m args below meth c A cells slots Q H1 locs1 ls hC hX hRt hP1 hD1 hS1 hl
theorem EV.callS {M' : eM} {cc' : ByteArray} {post' : eP} {idx a : Nat} {As : List Value} {st : List Value} (hd : decode cc pc = .ok (.invokestatic idx, 3)) (hlk : Cond.methodLink M.1.cls idx M'.1 ∈ eT) (ho : okS M' cc' a) (hM : MC G M' cc' ad n As h post') (hR : M'.2.2.2.1 + 1 ≤ M.2.2.2.1 ∧ 8 + (M'.2.1 + 11) + M'.2.2.2.2 ≤ M.2.2.2.2) (ha : As.length = a) (hst : st = As.reverse ++ rest) (hw : (rest.map fun v => v.category).sum ≤ 8) (k : ∀ v h', post' v h' → EV G M cc X ad n post (pc + 3) lv (v.toList ++ rest) h') : EV G M cc X ad n post pc lv st h := by
  intro p e R s m args below meth c A cells slots Q H locs ls hC hX hRt hP hD hS hl
  obtain ⟨o1, o2⟩ := ho
  have hF := wld_free hD hS hC.2.2.2.2.2.2.1
  refine va_callg (va_runS (As := As) (rest := rest) ⟨hC.1, hC.2.1, hC.2.2.1, hC.2.2.2.1, hC.2.2.2.2.1⟩ (hM H.size) ⟨EV.callB hC.2.2.2.2.1 o1 hlk (Nat.le_trans hR.1 hC.2.2.2.2.2.2.2.1) (Nat.le_trans hR.2 hC.2.2.2.2.2.2.2.2.1), hC.2.2.2.2.1 _ o2⟩ ⟨WB.blind, fun U hU hW => ⟨rfl, by rw [hU], by rw [hU]; exact hP, va_K.moved hW.alike hC.2.2.2.2.2.1, hD.weaken (fun _ _ _ _ => trivial), hC.2.2.2.2.2.2.2.2.2.2.2.warm hW⟩⟩ rfl ha hl.1 hst (lv_room hw) hd ⟨hC.2.2.2.2.2.2.2.2.2.1, hC.2.2.2.2.2.2.2.2.2.2.1⟩) hS (fun q _ hq => hF q hq) hF hF (fun v h' H1 locs1 hp hP1 hD1 hS1 => ?_)
  exact k v h' hp p e R s m args below meth c A cells slots Q H1 locs1 ls hC hX hRt hP1 hD1 hS1 hl
theorem EV.callSN {M' : eM} {cc' : ByteArray} {v : Value} {h2 : Nat → va_E} {idx a : Nat} {host : String} {As : List Value} {st : List Value} (hd : decode cc pc = .ok (.invokestatic idx, 3)) (hlk : Cond.methodLinkNest M.1.cls idx M'.1 host ∈ eN) (ho : okS M' cc' a) (hM : MC G M' cc' ad n As h (fun v' h' => v' = some v ∧ h' = h2)) (hR : M'.2.2.2.1 + 1 ≤ M.2.2.2.1 ∧ 8 + (M'.2.1 + 11) + M'.2.2.2.2 ≤ M.2.2.2.2) (ha : As.length = a) (hst : st = As.reverse ++ rest) (hw : (rest.map fun v => v.category).sum ≤ 8) (k : EV G M cc X ad n post (pc + 3) lv (v :: rest) h2) : EV G M cc X ad n post pc lv st h := by
  intro p e R s m args below meth c A cells slots Q H locs ls hC hX hRt hP hD hS hl
  obtain ⟨o1, o2⟩ := ho
  have hF := wld_free hD hS hC.2.2.2.2.2.2.1
  refine va_callg (va_runSN (As := As) (rest := rest) (host := host) ⟨hC.1, hC.2.1, hC.2.2.1, hC.2.2.2.1, hC.2.2.2.2.1⟩ (hM H.size) ⟨va_cnB a hC.2.2.2.2.1 (lw_goodIn o1.2.1) rfl rfl rfl (hC.2.2.2.2.2.2.2.2.2.2.2.1 _ hlk) (hC.2.2.2.2.1 _ o1.1) ⟨o1.2.2.1.1, o1.2.2.1.2, o1.2.2.2⟩ ⟨Nat.le_trans hR.1 hC.2.2.2.2.2.2.2.1, Nat.le_trans hR.2 hC.2.2.2.2.2.2.2.2.1⟩, hC.2.2.2.2.1 _ o2, trivial⟩ ⟨WB.blind, fun U hU hW => ⟨rfl, by rw [hU], by rw [hU]; exact hP, va_K.moved hW.alike hC.2.2.2.2.2.1, hD.weaken (fun _ _ _ _ => trivial), hC.2.2.2.2.2.2.2.2.2.2.2.warm hW⟩⟩ rfl ha hl.1 hst (lv_room hw) hd ⟨hC.2.2.2.2.2.2.2.2.2.1, hC.2.2.2.2.2.2.2.2.2.2.1⟩) hS (fun q _ hq => hF q hq) hF hF (fun v' h' H1 locs1 hp hP1 hD1 hS1 => ?_)
  obtain ⟨rfl, rfl⟩ := hp
  exact k p e R s m args below meth c A cells slots Q H1 locs1 ls hC hX hRt hP1 hD1 hS1 hl
end EVR
/-- an answer and a heap that are known -/
abbrev IS (v : Option Value) (h : Nat → va_E) : eP := fun v' h' => v' = v ∧ h' = h
section EVC
variable {G : eG} {M : eM} {cc : ByteArray} {X : Option (Nat × Nat × (Nat → Int32))} {ad : Nat → Nat} {n : Nat} {post : eP} {pc : Nat} {lv : List (Option Value)} {rest : List Value} {h : Nat → va_E}
theorem EV.callVR1 {M' : eM} {cc' : ByteArray} {v : Value} {h2 : Nat → va_E} {idx a q ci : Nat} {fs As : List Value} {st : List Value} (hd : decode cc pc = .ok (.invokevirtual idx, 3)) (hlk : Cond.methodLink M.1.cls idx M'.1 ∈ eT) (ho : okV M' cc' a ci) (hM : MC G M' cc' ad n (.ref (ad q) :: As) h (IS (some v) h2)) (hR : M'.2.2.2.1 + 1 ≤ M.2.2.2.1 ∧ 8 + (M'.2.1 + 11) + M'.2.2.2.2 ≤ M.2.2.2.2) (ha : As.length = a) (hst : st = As.reverse ++ .ref (ad q) :: rest) (hw : (rest.map fun v => v.category).sum ≤ 8) (hq : q < n) (hh : h q = .inr (ci, fs)) (k : EV G M cc X ad n post (pc + 3) lv (v :: rest) h2) : EV G M cc X ad n post pc lv st h :=
  EV.callV hd hlk ho hM hR ha hst hw hq hh (fun v' h' hp => by obtain ⟨rfl, rfl⟩ := hp; exact k)
theorem EV.callVR0 {M' : eM} {cc' : ByteArray} {h2 : Nat → va_E} {idx a q ci : Nat} {fs As : List Value} {st : List Value} (hd : decode cc pc = .ok (.invokevirtual idx, 3)) (hlk : Cond.methodLink M.1.cls idx M'.1 ∈ eT) (ho : okV M' cc' a ci) (hM : MC G M' cc' ad n (.ref (ad q) :: As) h (IS none h2)) (hR : M'.2.2.2.1 + 1 ≤ M.2.2.2.1 ∧ 8 + (M'.2.1 + 11) + M'.2.2.2.2 ≤ M.2.2.2.2) (ha : As.length = a) (hst : st = As.reverse ++ .ref (ad q) :: rest) (hw : (rest.map fun v => v.category).sum ≤ 8) (hq : q < n) (hh : h q = .inr (ci, fs)) (k : EV G M cc X ad n post (pc + 3) lv rest h2) : EV G M cc X ad n post pc lv st h :=
  EV.callV hd hlk ho hM hR ha hst hw hq hh (fun v' h' hp => by obtain ⟨rfl, rfl⟩ := hp; exact k)
theorem EV.callSR1 {M' : eM} {cc' : ByteArray} {v : Value} {h2 : Nat → va_E} {idx a : Nat} {As : List Value} {st : List Value} (hd : decode cc pc = .ok (.invokestatic idx, 3)) (hlk : Cond.methodLink M.1.cls idx M'.1 ∈ eT) (ho : okS M' cc' a) (hM : MC G M' cc' ad n As h (IS (some v) h2)) (hR : M'.2.2.2.1 + 1 ≤ M.2.2.2.1 ∧ 8 + (M'.2.1 + 11) + M'.2.2.2.2 ≤ M.2.2.2.2) (ha : As.length = a) (hst : st = As.reverse ++ rest) (hw : (rest.map fun v => v.category).sum ≤ 8) (k : EV G M cc X ad n post (pc + 3) lv (v :: rest) h2) : EV G M cc X ad n post pc lv st h :=
  EV.callS hd hlk ho hM hR ha hst hw (fun v' h' hp => by obtain ⟨rfl, rfl⟩ := hp; exact k)
theorem EV.callSR0 {M' : eM} {cc' : ByteArray} {h2 : Nat → va_E} {idx a : Nat} {As : List Value} {st : List Value} (hd : decode cc pc = .ok (.invokestatic idx, 3)) (hlk : Cond.methodLink M.1.cls idx M'.1 ∈ eT) (ho : okS M' cc' a) (hM : MC G M' cc' ad n As h (IS none h2)) (hR : M'.2.2.2.1 + 1 ≤ M.2.2.2.1 ∧ 8 + (M'.2.1 + 11) + M'.2.2.2.2 ≤ M.2.2.2.2) (ha : As.length = a) (hst : st = As.reverse ++ rest) (hw : (rest.map fun v => v.category).sum ≤ 8) (k : EV G M cc X ad n post (pc + 3) lv rest h2) : EV G M cc X ad n post pc lv st h :=
  EV.callS hd hlk ho hM hR ha hst hw (fun v' h' hp => by obtain ⟨rfl, rfl⟩ := hp; exact k)
/-- a call whose answer is an int (a long, nothing) and whose heap is told by a property -/
theorem EV.callVPi {M' : eM} {cc' : ByteArray} {v : Value} {Pr : (Nat → va_E) → Prop} {idx a q ci : Nat} {fs As : List Value} {st : List Value} (hd : decode cc pc = .ok (.invokevirtual idx, 3)) (hlk : Cond.methodLink M.1.cls idx M'.1 ∈ eT) (ho : okV M' cc' a ci) (hM : MC G M' cc' ad n (.ref (ad q) :: As) h (fun v' h' => v' = some v ∧ Pr h')) (hR : M'.2.2.2.1 + 1 ≤ M.2.2.2.1 ∧ 8 + (M'.2.1 + 11) + M'.2.2.2.2 ≤ M.2.2.2.2) (ha : As.length = a) (hst : st = As.reverse ++ .ref (ad q) :: rest) (hw : (rest.map fun v => v.category).sum ≤ 8) (hq : q < n) (hh : h q = .inr (ci, fs)) (k : ∀ h2, Pr h2 → EV G M cc X ad n post (pc + 3) lv (v :: rest) h2) : EV G M cc X ad n post pc lv st h :=
  EV.callV hd hlk ho hM hR ha hst hw hq hh (fun v' h' hp => by obtain ⟨rfl, hp⟩ := hp; exact k h' hp)
theorem EV.callVP0 {M' : eM} {cc' : ByteArray} {Pr : (Nat → va_E) → Prop} {idx a q ci : Nat} {fs As : List Value} {st : List Value} (hd : decode cc pc = .ok (.invokevirtual idx, 3)) (hlk : Cond.methodLink M.1.cls idx M'.1 ∈ eT) (ho : okV M' cc' a ci) (hM : MC G M' cc' ad n (.ref (ad q) :: As) h (fun v' h' => v' = none ∧ Pr h')) (hR : M'.2.2.2.1 + 1 ≤ M.2.2.2.1 ∧ 8 + (M'.2.1 + 11) + M'.2.2.2.2 ≤ M.2.2.2.2) (ha : As.length = a) (hst : st = As.reverse ++ .ref (ad q) :: rest) (hw : (rest.map fun v => v.category).sum ≤ 8) (hq : q < n) (hh : h q = .inr (ci, fs)) (k : ∀ h2, Pr h2 → EV G M cc X ad n post (pc + 3) lv rest h2) : EV G M cc X ad n post pc lv st h :=
  EV.callV hd hlk ho hM hR ha hst hw hq hh (fun v' h' hp => by obtain ⟨rfl, hp⟩ := hp; exact k h' hp)
end EVC
end
section
def b2i (b : Bool) : Int32 := if b then 1 else 0
theorem b2i_1 {p : Prop} {i : Decidable p} (h : p) : (1 : Int32) = b2i (@decide p i) := by simp [b2i, h]
theorem b2i_0 {p : Prop} {i : Decidable p} (h : ¬ p) : (0 : Int32) = b2i (@decide p i) := by simp [b2i, h]
theorem b2i_T {p : Prop} {i : Decidable p} (h : ¬ b2i (@decide p i) = 0) : p := by
  by_cases q : p
  · exact q
  · exact absurd (b2i_0 q).symm h
theorem b2i_F {p : Prop} {i : Decidable p} (h : b2i (@decide p i) = 0) : ¬ p := fun q => by
  rw [← b2i_1 q] at h
  exact absurd h (by decide)
theorem b2i_ne {b : Bool} (h : ¬ b2i b = 0) : b = true := by cases b <;> simp [b2i] at h ⊢
theorem b2i_eq {b : Bool} (h : b2i b = 0) : b = false := by cases b <;> simp [b2i] at h ⊢
theorem b2i_nar (b : Bool) : narrow .boolean (.int (b2i b)) = .int (b2i b) := by cases b <;> rfl
theorem b2i_vp (b : Bool) : vp_nar .boolean (b2i b) = b2i b := by cases b <;> rfl
theorem b2i_fit (b : Bool) : fits .boolean (.int (b2i b)) = true := by cases b <;> rfl
theorem b2i_true : b2i true = 1 := rfl
theorem b2i_false : b2i false = 0 := rfl
theorem i_l0 : (0 : Int32).toInt = 0 := by decide +kernel
theorem i_l1 : (1 : Int32).toInt = 1 := by decide +kernel
theorem i_l2 : (2 : Int32).toInt = 2 := by decide +kernel
theorem i_l5 : (5 : Int32).toInt = 5 := by decide +kernel
theorem i_l19 : (19 : Int32).toInt = 19 := by decide +kernel
theorem i_m1 : (-1 : Int32).toInt = -1 := by decide +kernel
theorem j_l0 : (0 : Int64).toInt = 0 := by decide +kernel
theorem j_l1 : (1 : Int64).toInt = 1 := by decide +kernel
theorem j_l5 : (5 : Int64).toInt = 5 := by decide +kernel
def iWithin (v a b : Int32) : Prop := a.toInt ≤ v.toInt ∧ v.toInt ≤ b.toInt
def iCast (v lane : Int32) : Int32 := if lane = 0 then v.toInt8.toInt32 else if lane = 1 then v.toInt16.toInt32 else v
theorem i_xor_neg (x y : Int32) (hy : 0 < y.toInt) : 0 ≤ (x ^^^ y).toInt ↔ 0 ≤ x.toInt := by
  have h1 : (x ^^^ y).toBitVec.msb = (x.toBitVec.msb ^^ y.toBitVec.msb) := by
    rw [Int32.toBitVec_xor, BitVec.msb_xor]
  rw [BitVec.msb_eq_toInt, BitVec.msb_eq_toInt, BitVec.msb_eq_toInt] at h1
  have e1 : (x ^^^ y).toBitVec.toInt = (x ^^^ y).toInt := rfl
  have e2 : x.toBitVec.toInt = x.toInt := rfl
  have e3 : y.toBitVec.toInt = y.toInt := rfl
  rw [e1, e2, e3, decide_eq_false (show ¬ y.toInt < 0 by omega), Bool.xor_false] at h1
  have := decide_eq_decide.mp h1
  omega
theorem j_xor_neg (x y : Int64) (hy : 0 < y.toInt) : 0 ≤ (x ^^^ y).toInt ↔ 0 ≤ x.toInt := by
  have h1 : (x ^^^ y).toBitVec.msb = (x.toBitVec.msb ^^ y.toBitVec.msb) := by
    rw [Int64.toBitVec_xor, BitVec.msb_xor]
  rw [BitVec.msb_eq_toInt, BitVec.msb_eq_toInt, BitVec.msb_eq_toInt] at h1
  have e1 : (x ^^^ y).toBitVec.toInt = (x ^^^ y).toInt := rfl
  have e2 : x.toBitVec.toInt = x.toInt := rfl
  have e3 : y.toBitVec.toInt = y.toInt := rfl
  rw [e1, e2, e3, decide_eq_false (show ¬ y.toInt < 0 by omega), Bool.xor_false] at h1
  have := decide_eq_decide.mp h1
  omega
theorem i_ne0 {y : Int32} (hy : 0 < y.toInt) : ¬ y = 0 := fun q => by rw [q] at hy; exact absurd hy (by decide +kernel)
theorem j_ne0 {y : Int64} (hy : 0 < y.toInt) : ¬ y = 0 := fun q => by rw [q] at hy; exact absurd hy (by decide +kernel)
/-- rounding down, for a divisor above 0 -/
theorem i_fd1 {x y : Int32} (hy : 0 < y.toInt) (hx : 0 ≤ x.toInt) : x / y = iI (x.toInt / y.toInt) := by
  rw [← fl_pos hx, ← iI_tdiv (i_lo x) (i_hi x) hy (i_hi y), iI_of, iI_of]
theorem i_fdT {x y : Int32} (hy : 0 < y.toInt) : x / y = iI (x.toInt.tdiv y.toInt) := by
  rw [← iI_tdiv (i_lo x) (i_hi x) hy (i_hi y), iI_of, iI_of]
theorem j_fdT {x y : Int64} (hy : 0 < y.toInt) : x / y = jI (x.toInt.tdiv y.toInt) := by
  rw [← jI_tdiv (j_lo x) (j_hi x) hy (j_hi y), jI_of, jI_of]
theorem td_bound {a b : Int} (hb : 0 < b) : -(a.natAbs : Int) ≤ a.tdiv b * b ∧ a.tdiv b * b ≤ (a.natAbs : Int) := by
  have h := Int.mul_tdiv_add_tmod a b
  by_cases ha : 0 ≤ a
  · have h1 := Int.tmod_nonneg b ha
    have h2 : 0 ≤ a.tdiv b := Int.tdiv_nonneg ha (by omega)
    have h3 : 0 ≤ a.tdiv b * b := Int.mul_nonneg h2 (by omega)
    rw [Int.mul_comm] at h
    omega
  · have e : a.tdiv b = -((-a).tdiv b) := by rw [Int.neg_tdiv]; omega
    have h' := Int.mul_tdiv_add_tmod (-a) b
    have h1 := Int.tmod_nonneg b (show 0 ≤ -a by omega)
    have h2 : 0 ≤ (-a).tdiv b := Int.tdiv_nonneg (by omega) (by omega)
    have h3 : 0 ≤ (-a).tdiv b * b := Int.mul_nonneg h2 (by omega)
    rw [Int.mul_comm] at h'
    rw [e, Int.neg_mul]
    omega
theorem i_td {x y : Int32} (hy : 0 < y.toInt) : (x / y * y = x) ↔ x.toInt.tdiv y.toInt * y.toInt = x.toInt := by
  have hb := td_bound (a := x.toInt) hy
  have h1 := i_lo x
  have h2 := i_hi x
  conv => lhs; rw [i_fdT hy]; arg 1; arg 2; rw [← iI_of y]
  rw [iI_mul]
  constructor
  · intro h
    have h3 := congrArg Int32.toInt h
    by_cases hm : x.toInt.tdiv y.toInt * y.toInt < 2147483648
    · rw [iI_toInt (by omega) hm] at h3
      exact h3
    · exfalso
      have h4 : x.toInt = -2147483648 := by omega
      have h5 : x.toInt.tdiv y.toInt ≤ 0 := by
        rw [h4, Int.neg_tdiv]
        have : 0 ≤ (2147483648 : Int).tdiv y.toInt := Int.tdiv_nonneg (by omega) (by omega)
        omega
      have h6 : x.toInt.tdiv y.toInt * y.toInt ≤ 0 := Int.mul_nonpos_of_nonpos_of_nonneg h5 (by omega)
      omega
  · intro h
    rw [h, iI_of]
theorem j_td {x y : Int64} (hy : 0 < y.toInt) : (x / y * y = x) ↔ x.toInt.tdiv y.toInt * y.toInt = x.toInt := by
  have hb := td_bound (a := x.toInt) hy
  have h1 := j_lo x
  have h2 := j_hi x
  conv => lhs; rw [j_fdT hy]; arg 1; arg 2; rw [← jI_of y]
  rw [jI_mul]
  constructor
  · intro h
    have h3 := congrArg Int64.toInt h
    by_cases hm : x.toInt.tdiv y.toInt * y.toInt < 9223372036854775808
    · rw [jI_toInt (by omega) hm] at h3
      exact h3
    · exfalso
      have h4 : x.toInt = -9223372036854775808 := by omega
      have h5 : x.toInt.tdiv y.toInt ≤ 0 := by
        rw [h4, Int.neg_tdiv]
        have : 0 ≤ (9223372036854775808 : Int).tdiv y.toInt := Int.tdiv_nonneg (by omega) (by omega)
        omega
      have h6 : x.toInt.tdiv y.toInt * y.toInt ≤ 0 := Int.mul_nonpos_of_nonpos_of_nonneg h5 (by omega)
      omega
  · intro h
    rw [h, jI_of]
theorem i_fd2 {x y : Int32} (hy : 0 < y.toInt) (hx : ¬ 0 ≤ x.toInt) (he : x / y * y = x) : x / y = iI (x.toInt / y.toInt) := by
  rw [← fl_neg_exact hy ((i_td hy).mp he), i_fdT hy]
theorem i_fd3 {x y : Int32} (hy : 0 < y.toInt) (hx : ¬ 0 ≤ x.toInt) (he : ¬ x / y * y = x) : x / y - 1 = iI (x.toInt / y.toInt) := by
  rw [← fl_neg hy (by omega) (fun q => he ((i_td hy).mpr q)), i_fdT hy, show (1 : Int32) = iI 1 from iI_lit 1, iI_sub]
theorem j_fd1 {x y : Int64} (hy : 0 < y.toInt) (hx : 0 ≤ x.toInt) : x / y = jI (x.toInt / y.toInt) := by
  rw [← fl_pos hx, ← jI_tdiv (j_lo x) (j_hi x) hy (j_hi y), jI_of, jI_of]
theorem j_fd2 {x y : Int64} (hy : 0 < y.toInt) (he : x / y * y = x) : x / y = jI (x.toInt / y.toInt) := by
  rw [← fl_neg_exact hy ((j_td hy).mp he), j_fdT hy]
theorem j_fd3 {x y : Int64} (hy : 0 < y.toInt) (hx : ¬ 0 ≤ x.toInt) (he : ¬ x / y * y = x) : x / y - 1 = jI (x.toInt / y.toInt) := by
  rw [← fl_neg hy (by omega) (fun q => he ((j_td hy).mpr q)), j_fdT hy, show (1 : Int64) = jI 1 from jI_lit 1, jI_sub]
theorem j_rem0 {x y : Int64} : (x - x / y * y = 0) ↔ x / y * y = x := by
  generalize x / y * y = z
  constructor
  · intro h
    have := Int64.sub_eq_iff_eq_add.mp h
    rw [Int64.zero_add] at this
    exact this.symm
  · intro h
    rw [h, Int64.sub_self]

set_option maxHeartbeats 4000000 in
set_option maxRecDepth 100000 in
theorem m_within {G : eG} {ad : Nat → Nat} {h : Nat → va_E} (v a b : Int32)  : MC G M_X4_within cX4_within ad 54 [.int v, .int a, .int b] h (IS (some (.int (b2i (decide (a.toInt ≤ v.toInt ∧ v.toInt ≤ b.toInt))))) h) := by
  refine MC.of (by decide +kernel) (Nat.le_of_ble_eq_true rfl) (by dsimp only [linit, Nat.reduceSub, List.reduceReplicate] <;> rfl) ?_
  refine EV.iload_n (pc := 0) dX4_within_0 rfl ?_
  refine EV.iload_n (pc := 1) dX4_within_1 rfl ?_
  refine EV.icmp_lt (pc := 2) (tgt := 14) dX4_within_2 (by decide) (fun c2 => ?_) (fun c2 => ?_)
  · refine EV.iconst (pc := 14) (v := 0) dX4_within_14 (by decide) ?_
    refine EV.iret (pc := 15) dX4_within_15 (by rfl) ?_
    exact ⟨congrArg (fun z => some (Value.int z)) (by first | exact b2i_1 (by (try simp only [Int32.lt_iff_toInt_lt, Int32.le_iff_toInt_le, ← Int32.toInt_inj, Int64.lt_iff_toInt_lt, Int64.le_iff_toInt_le, ← Int64.toInt_inj, i_l0, i_l1, i_l2, i_l5, i_l19, i_m1, j_l0, j_l1, j_l5, Int32.toInt_toInt64] at *); omega) | exact b2i_0 (by (try simp only [Int32.lt_iff_toInt_lt, Int32.le_iff_toInt_le, ← Int32.toInt_inj, Int64.lt_iff_toInt_lt, Int64.le_iff_toInt_le, ← Int64.toInt_inj, i_l0, i_l1, i_l2, i_l5, i_l19, i_m1, j_l0, j_l1, j_l5, Int32.toInt_toInt64] at *); omega)), rfl⟩
  · refine EV.iload_n (pc := 5) dX4_within_5 rfl ?_
    refine EV.iload_n (pc := 6) dX4_within_6 rfl ?_
    refine EV.icmp_gt (pc := 7) (tgt := 14) dX4_within_7 (by decide) (fun c7 => ?_) (fun c7 => ?_)
    · refine EV.iconst (pc := 14) (v := 0) dX4_within_14 (by decide) ?_
      refine EV.iret (pc := 15) dX4_within_15 (by rfl) ?_
      exact ⟨congrArg (fun z => some (Value.int z)) (by first | exact b2i_1 (by (try simp only [Int32.lt_iff_toInt_lt, Int32.le_iff_toInt_le, ← Int32.toInt_inj, Int64.lt_iff_toInt_lt, Int64.le_iff_toInt_le, ← Int64.toInt_inj, i_l0, i_l1, i_l2, i_l5, i_l19, i_m1, j_l0, j_l1, j_l5, Int32.toInt_toInt64] at *); omega) | exact b2i_0 (by (try simp only [Int32.lt_iff_toInt_lt, Int32.le_iff_toInt_le, ← Int32.toInt_inj, Int64.lt_iff_toInt_lt, Int64.le_iff_toInt_le, ← Int64.toInt_inj, i_l0, i_l1, i_l2, i_l5, i_l19, i_m1, j_l0, j_l1, j_l5, Int32.toInt_toInt64] at *); omega)), rfl⟩
    · refine EV.iconst (pc := 10) (v := 1) dX4_within_10 (by decide) ?_
      refine EV.goto (pc := 11) (tgt := 15) dX4_within_11 (by decide) ?_
      refine EV.iret (pc := 15) dX4_within_15 (by rfl) ?_
      exact ⟨congrArg (fun z => some (Value.int z)) (by first | exact b2i_1 (by (try simp only [Int32.lt_iff_toInt_lt, Int32.le_iff_toInt_le, ← Int32.toInt_inj, Int64.lt_iff_toInt_lt, Int64.le_iff_toInt_le, ← Int64.toInt_inj, i_l0, i_l1, i_l2, i_l5, i_l19, i_m1, j_l0, j_l1, j_l5, Int32.toInt_toInt64] at *); omega) | exact b2i_0 (by (try simp only [Int32.lt_iff_toInt_lt, Int32.le_iff_toInt_le, ← Int32.toInt_inj, Int64.lt_iff_toInt_lt, Int64.le_iff_toInt_le, ← Int64.toInt_inj, i_l0, i_l1, i_l2, i_l5, i_l19, i_m1, j_l0, j_l1, j_l5, Int32.toInt_toInt64] at *); omega)), rfl⟩

set_option maxHeartbeats 4000000 in
set_option maxRecDepth 100000 in
theorem m_castToLane {G : eG} {ad : Nat → Nat} {h : Nat → va_E} (v a : Int32)  : MC G M_X4_castToLane cX4_castToLane ad 54 [.int v, .int a] h (IS (some (.int (iCast v a))) h) := by
  refine MC.of (by decide +kernel) (Nat.le_of_ble_eq_true rfl) (by dsimp only [linit, Nat.reduceSub, List.reduceReplicate] <;> rfl) ?_
  refine EV.iload_n (pc := 0) dX4_castToLane_0 rfl ?_
  refine EV.if_ne (pc := 1) (tgt := 7) dX4_castToLane_1 (by decide) (fun c1 => ?_) (fun c1 => ?_)
  · refine EV.iload_n (pc := 7) dX4_castToLane_7 rfl ?_
    refine EV.iconst (pc := 8) (v := 1) dX4_castToLane_8 (by decide) ?_
    refine EV.icmp_ne (pc := 9) (tgt := 17) dX4_castToLane_9 (by decide) (fun c9 => ?_) (fun c9 => ?_)
    · refine EV.iload_n (pc := 17) dX4_castToLane_17 rfl ?_
      refine EV.iret (pc := 18) dX4_castToLane_18 trivial ?_
      exact ⟨congrArg (fun z => some (Value.int z)) (by simp [iCast, *]), rfl⟩
    · refine EV.iload_n (pc := 12) dX4_castToLane_12 rfl ?_
      refine EV.i2s (pc := 13) dX4_castToLane_13 ?_
      refine EV.goto (pc := 14) (tgt := 18) dX4_castToLane_14 (by decide) ?_
      refine EV.iret (pc := 18) dX4_castToLane_18 trivial ?_
      exact ⟨congrArg (fun z => some (Value.int z)) (by simp [iCast, *]), rfl⟩
  · refine EV.iload_n (pc := 4) dX4_castToLane_4 rfl ?_
    refine EV.i2b (pc := 5) dX4_castToLane_5 ?_
    refine EV.iret (pc := 6) dX4_castToLane_6 trivial ?_
    exact ⟨congrArg (fun z => some (Value.int z)) (by simp [iCast, *]), rfl⟩

set_option maxHeartbeats 4000000 in
set_option maxRecDepth 100000 in
theorem m_isLane {G : eG} {ad : Nat → Nat} {h : Nat → va_E} (v : Int32)  : MC G M_X4_isLane cX4_isLane ad 54 [.int v] h (IS (some (.int (b2i (decide (0 ≤ v.toInt ∧ v.toInt ≤ 2))))) h) := by
  refine MC.of (by decide +kernel) (Nat.le_of_ble_eq_true rfl) (by dsimp only [linit, Nat.reduceSub, List.reduceReplicate] <;> rfl) ?_
  refine EV.iload_n (pc := 0) dX4_isLane_0 rfl ?_
  refine EV.iconst (pc := 1) (v := 0) dX4_isLane_1 (by decide) ?_
  refine EV.iconst (pc := 2) (v := 2) dX4_isLane_2 (by decide) ?_
  refine EV.callSR1 (pc := 3) (M' := M_X4_within) dX4_isLane_3 lkX4_106 okS_X4_within (m_within _ _ _) (by decide) rfl rfl (Nat.le_of_ble_eq_true rfl) ?_
  exact EV.iret (pc := 6) dX4_isLane_6 (b2i_nar _) ⟨rfl, rfl⟩

set_option maxHeartbeats 4000000 in
set_option maxRecDepth 100000 in
theorem m_isCell {G : eG} {ad : Nat → Nat} {h : Nat → va_E} (x y : Int32)  : MC G M_X4_isCell cX4_isCell ad 54 [.int x, .int y] h (IS (some (.int (b2i (decide (0 ≤ x.toInt ∧ x.toInt ≤ 19 ∧ 0 ≤ y.toInt ∧ y.toInt ≤ 19))))) h) := by
  refine MC.of (by decide +kernel) (Nat.le_of_ble_eq_true rfl) (by dsimp only [linit, Nat.reduceSub, List.reduceReplicate] <;> rfl) ?_
  refine EV.iload_n (pc := 0) dX4_isCell_0 rfl ?_
  refine EV.iconst (pc := 1) (v := 0) dX4_isCell_1 (by decide) ?_
  refine EV.bipush (pc := 2) (v := 19) dX4_isCell_2 (by decide) ?_
  refine EV.callSR1 (pc := 4) (M' := M_X4_within) dX4_isCell_4 lkX4_106 okS_X4_within (m_within _ _ _) (by decide) rfl rfl (Nat.le_of_ble_eq_true rfl) ?_
  refine EV.if_eq (pc := 7) (tgt := 24) dX4_isCell_7 (by decide) (fun c7 => ?_) (fun c7 => ?_)
  · replace c7 := b2i_F c7
    refine EV.iconst (pc := 24) (v := 0) dX4_isCell_24 (by decide) ?_
    refine EV.iret (pc := 25) dX4_isCell_25 (by rfl) ?_
    exact ⟨congrArg (fun z => some (Value.int z)) (by first | exact b2i_1 (by (try simp only [Int32.lt_iff_toInt_lt, Int32.le_iff_toInt_le, ← Int32.toInt_inj, Int64.lt_iff_toInt_lt, Int64.le_iff_toInt_le, ← Int64.toInt_inj, i_l0, i_l1, i_l2, i_l5, i_l19, i_m1, j_l0, j_l1, j_l5, Int32.toInt_toInt64] at *); omega) | exact b2i_0 (by (try simp only [Int32.lt_iff_toInt_lt, Int32.le_iff_toInt_le, ← Int32.toInt_inj, Int64.lt_iff_toInt_lt, Int64.le_iff_toInt_le, ← Int64.toInt_inj, i_l0, i_l1, i_l2, i_l5, i_l19, i_m1, j_l0, j_l1, j_l5, Int32.toInt_toInt64] at *); omega)), rfl⟩
  · replace c7 := b2i_T c7
    refine EV.iload_n (pc := 10) dX4_isCell_10 rfl ?_
    refine EV.iconst (pc := 11) (v := 0) dX4_isCell_11 (by decide) ?_
    refine EV.bipush (pc := 12) (v := 19) dX4_isCell_12 (by decide) ?_
    refine EV.callSR1 (pc := 14) (M' := M_X4_within) dX4_isCell_14 lkX4_106 okS_X4_within (m_within _ _ _) (by decide) rfl rfl (Nat.le_of_ble_eq_true rfl) ?_
    refine EV.if_eq (pc := 17) (tgt := 24) dX4_isCell_17 (by decide) (fun c17 => ?_) (fun c17 => ?_)
    · replace c17 := b2i_F c17
      refine EV.iconst (pc := 24) (v := 0) dX4_isCell_24 (by decide) ?_
      refine EV.iret (pc := 25) dX4_isCell_25 (by rfl) ?_
      exact ⟨congrArg (fun z => some (Value.int z)) (by first | exact b2i_1 (by (try simp only [Int32.lt_iff_toInt_lt, Int32.le_iff_toInt_le, ← Int32.toInt_inj, Int64.lt_iff_toInt_lt, Int64.le_iff_toInt_le, ← Int64.toInt_inj, i_l0, i_l1, i_l2, i_l5, i_l19, i_m1, j_l0, j_l1, j_l5, Int32.toInt_toInt64] at *); omega) | exact b2i_0 (by (try simp only [Int32.lt_iff_toInt_lt, Int32.le_iff_toInt_le, ← Int32.toInt_inj, Int64.lt_iff_toInt_lt, Int64.le_iff_toInt_le, ← Int64.toInt_inj, i_l0, i_l1, i_l2, i_l5, i_l19, i_m1, j_l0, j_l1, j_l5, Int32.toInt_toInt64] at *); omega)), rfl⟩
    · replace c17 := b2i_T c17
      refine EV.iconst (pc := 20) (v := 1) dX4_isCell_20 (by decide) ?_
      refine EV.goto (pc := 21) (tgt := 25) dX4_isCell_21 (by decide) ?_
      refine EV.iret (pc := 25) dX4_isCell_25 (by rfl) ?_
      exact ⟨congrArg (fun z => some (Value.int z)) (by first | exact b2i_1 (by (try simp only [Int32.lt_iff_toInt_lt, Int32.le_iff_toInt_le, ← Int32.toInt_inj, Int64.lt_iff_toInt_lt, Int64.le_iff_toInt_le, ← Int64.toInt_inj, i_l0, i_l1, i_l2, i_l5, i_l19, i_m1, j_l0, j_l1, j_l5, Int32.toInt_toInt64] at *); omega) | exact b2i_0 (by (try simp only [Int32.lt_iff_toInt_lt, Int32.le_iff_toInt_le, ← Int32.toInt_inj, Int64.lt_iff_toInt_lt, Int64.le_iff_toInt_le, ← Int64.toInt_inj, i_l0, i_l1, i_l2, i_l5, i_l19, i_m1, j_l0, j_l1, j_l5, Int32.toInt_toInt64] at *); omega)), rfl⟩

set_option maxHeartbeats 4000000 in
set_option maxRecDepth 100000 in
theorem m_max {G : eG} {ad : Nat → Nat} {h : Nat → va_E} (x y : Int32)  : MC G M_J9_max_7cf53 cJ9_max_7cf53 ad 54 [.int x, .int y] h (IS (some (.int (if x.toInt < y.toInt then y else x))) h) := by
  refine MC.of (by decide +kernel) (Nat.le_of_ble_eq_true rfl) (by dsimp only [linit, Nat.reduceSub, List.reduceReplicate] <;> rfl) ?_
  refine EV.iload_n (pc := 0) dJ9_max_7cf53_0 rfl ?_
  refine EV.iload_n (pc := 1) dJ9_max_7cf53_1 rfl ?_
  refine EV.icmp_lt (pc := 2) (tgt := 9) dJ9_max_7cf53_2 (by decide) (fun c2 => ?_) (fun c2 => ?_)
  · refine EV.iload_n (pc := 9) dJ9_max_7cf53_9 rfl ?_
    refine EV.iret (pc := 10) dJ9_max_7cf53_10 trivial ?_
    exact ⟨congrArg (fun z => some (Value.int z)) (by rw [Int32.lt_iff_toInt_lt] at *; simp [*]), rfl⟩
  · refine EV.iload_n (pc := 5) dJ9_max_7cf53_5 rfl ?_
    refine EV.goto (pc := 6) (tgt := 10) dJ9_max_7cf53_6 (by decide) ?_
    refine EV.iret (pc := 10) dJ9_max_7cf53_10 trivial ?_
    exact ⟨congrArg (fun z => some (Value.int z)) (by rw [Int32.lt_iff_toInt_lt] at *; simp [*]), rfl⟩

set_option maxHeartbeats 4000000 in
set_option maxRecDepth 100000 in
theorem m_min {G : eG} {ad : Nat → Nat} {h : Nat → va_E} (x y : Int32)  : MC G M_J9_min_7cf53 cJ9_min_7cf53 ad 54 [.int x, .int y] h (IS (some (.int (if y.toInt < x.toInt then y else x))) h) := by
  refine MC.of (by decide +kernel) (Nat.le_of_ble_eq_true rfl) (by dsimp only [linit, Nat.reduceSub, List.reduceReplicate] <;> rfl) ?_
  refine EV.iload_n (pc := 0) dJ9_min_7cf53_0 rfl ?_
  refine EV.iload_n (pc := 1) dJ9_min_7cf53_1 rfl ?_
  refine EV.icmp_gt (pc := 2) (tgt := 9) dJ9_min_7cf53_2 (by decide) (fun c2 => ?_) (fun c2 => ?_)
  · refine EV.iload_n (pc := 9) dJ9_min_7cf53_9 rfl ?_
    refine EV.iret (pc := 10) dJ9_min_7cf53_10 trivial ?_
    exact ⟨congrArg (fun z => some (Value.int z)) (by rw [Int32.lt_iff_toInt_lt] at *; simp [*]), rfl⟩
  · refine EV.iload_n (pc := 5) dJ9_min_7cf53_5 rfl ?_
    refine EV.goto (pc := 6) (tgt := 10) dJ9_min_7cf53_6 (by decide) ?_
    refine EV.iret (pc := 10) dJ9_min_7cf53_10 trivial ?_
    exact ⟨congrArg (fun z => some (Value.int z)) (by rw [Int32.lt_iff_toInt_lt] at *; simp [*]), rfl⟩

set_option maxHeartbeats 4000000 in
set_option maxRecDepth 100000 in
theorem m_abs {G : eG} {ad : Nat → Nat} {h : Nat → va_E} (x : Int64)  : MC G M_J9_abs_067f4 cJ9_abs_067f4 ad 54 [.long x] h (IS (some (.long (if 0 ≤ x.toInt then x else -x))) h) := by
  refine MC.of (by decide +kernel) (Nat.le_of_ble_eq_true rfl) (by dsimp only [linit, Nat.reduceSub, List.reduceReplicate] <;> rfl) ?_
  refine EV.lload_n (pc := 0) dJ9_abs_067f4_0 rfl ?_
  refine EV.lconst (pc := 1) (v := 0) dJ9_abs_067f4_1 (by decide) ?_
  refine EV.lcmp_ge (pc := 2) (tgt := 11) dJ9_abs_067f4_2 dJ9_abs_067f4_3 (by decide) (fun c2 => ?_) (fun c2 => ?_)
  · refine EV.lload_n (pc := 11) dJ9_abs_067f4_11 rfl ?_
    refine EV.lret (pc := 12) dJ9_abs_067f4_12 trivial ?_
    exact ⟨congrArg (fun z => some (Value.long z)) (by rw [Int64.le_iff_toInt_le] at *; simp only [j_l0] at *; simp [*]), rfl⟩
  · refine EV.lload_n (pc := 6) dJ9_abs_067f4_6 rfl ?_
    refine EV.lneg (pc := 7) dJ9_abs_067f4_7 ?_
    refine EV.goto (pc := 8) (tgt := 12) dJ9_abs_067f4_8 (by decide) ?_
    refine EV.lret (pc := 12) dJ9_abs_067f4_12 trivial ?_
    exact ⟨congrArg (fun z => some (Value.long z)) (by rw [Int64.le_iff_toInt_le] at *; simp only [j_l0] at *; simp [*]), rfl⟩

set_option maxHeartbeats 4000000 in
set_option maxRecDepth 100000 in
theorem m_floorDivI {G : eG} {ad : Nat → Nat} {h : Nat → va_E} (x y : Int32) (hy : 0 < y.toInt) : MC G M_J9_floorDiv_7cf53 cJ9_floorDiv_7cf53 ad 54 [.int x, .int y] h (IS (some (.int (iI (x.toInt / y.toInt)))) h) := by
  refine MC.of (by decide +kernel) (Nat.le_of_ble_eq_true rfl) (by dsimp only [linit, Nat.reduceSub, List.reduceReplicate] <;> rfl) ?_
  refine EV.iload_n (pc := 0) dJ9_floorDiv_7cf53_0 rfl ?_
  refine EV.iload_n (pc := 1) dJ9_floorDiv_7cf53_1 rfl ?_
  refine EV.idiv (pc := 2) dJ9_floorDiv_7cf53_2 (i_ne0 hy) ?_
  refine EV.istore_n (pc := 3) 2 dJ9_floorDiv_7cf53_3 rfl (by decide) (by dsimp only [lst1, lk] <;> rfl) ?_
  refine EV.iload_n (pc := 4) dJ9_floorDiv_7cf53_4 rfl ?_
  refine EV.iload_n (pc := 5) dJ9_floorDiv_7cf53_5 rfl ?_
  refine EV.ixor (pc := 6) dJ9_floorDiv_7cf53_6 ?_
  refine EV.if_ge (pc := 7) (tgt := 21) dJ9_floorDiv_7cf53_7 (by decide) (fun c7 => ?_) (fun c7 => ?_)
  · refine EV.iload_n (pc := 21) dJ9_floorDiv_7cf53_21 rfl ?_
    refine EV.iret (pc := 22) dJ9_floorDiv_7cf53_22 trivial ?_
    exact ⟨congrArg (fun z => some (Value.int z)) (by rw [Int32.le_iff_toInt_le, i_l0, i_xor_neg _ _ hy] at c7; first | exact i_fd1 hy c7 | exact i_fd2 hy c7 c14), rfl⟩
  · refine EV.iload_n (pc := 10) dJ9_floorDiv_7cf53_10 rfl ?_
    refine EV.iload_n (pc := 11) dJ9_floorDiv_7cf53_11 rfl ?_
    refine EV.imul (pc := 12) dJ9_floorDiv_7cf53_12 ?_
    refine EV.iload_n (pc := 13) dJ9_floorDiv_7cf53_13 rfl ?_
    refine EV.icmp_eq (pc := 14) (tgt := 21) dJ9_floorDiv_7cf53_14 (by decide) (fun c14 => ?_) (fun c14 => ?_)
    · refine EV.iload_n (pc := 21) dJ9_floorDiv_7cf53_21 rfl ?_
      refine EV.iret (pc := 22) dJ9_floorDiv_7cf53_22 trivial ?_
      exact ⟨congrArg (fun z => some (Value.int z)) (by rw [Int32.le_iff_toInt_le, i_l0, i_xor_neg _ _ hy] at c7; first | exact i_fd1 hy c7 | exact i_fd2 hy c7 c14), rfl⟩
    · refine EV.iload_n (pc := 17) dJ9_floorDiv_7cf53_17 rfl ?_
      refine EV.iconst (pc := 18) (v := 1) dJ9_floorDiv_7cf53_18 (by decide) ?_
      refine EV.isub (pc := 19) dJ9_floorDiv_7cf53_19 ?_
      refine EV.iret (pc := 20) dJ9_floorDiv_7cf53_20 trivial ?_
      exact ⟨congrArg (fun z => some (Value.int z)) (by rw [Int32.le_iff_toInt_le, i_l0, i_xor_neg _ _ hy] at c7; exact i_fd3 hy c7 c14), rfl⟩

set_option maxHeartbeats 4000000 in
set_option maxRecDepth 100000 in
theorem m_floorDivJ {G : eG} {ad : Nat → Nat} {h : Nat → va_E} (x y : Int64) (hy : 0 < y.toInt) : MC G M_J9_floorDiv_f86c9 cJ9_floorDiv_f86c9 ad 54 [.long x, .long y] h (IS (some (.long (jI (x.toInt / y.toInt)))) h) := by
  refine MC.of (by decide +kernel) (Nat.le_of_ble_eq_true rfl) (by dsimp only [linit, Nat.reduceSub, List.reduceReplicate] <;> rfl) ?_
  refine EV.lload_n (pc := 0) dJ9_floorDiv_f86c9_0 rfl ?_
  refine EV.lload_n (pc := 1) dJ9_floorDiv_f86c9_1 rfl ?_
  refine EV.ldiv (pc := 2) dJ9_floorDiv_f86c9_2 (j_ne0 hy) ?_
  refine EV.lstore (pc := 3) dJ9_floorDiv_f86c9_3 (by decide) (by dsimp only [lst2, lno, lk] <;> rfl) ?_
  refine EV.lload_n (pc := 5) dJ9_floorDiv_f86c9_5 rfl ?_
  refine EV.lload_n (pc := 6) dJ9_floorDiv_f86c9_6 rfl ?_
  refine EV.lxor (pc := 7) dJ9_floorDiv_f86c9_7 ?_
  refine EV.lconst (pc := 8) (v := 0) dJ9_floorDiv_f86c9_8 (by decide) ?_
  refine EV.lcmp_ge (pc := 9) (tgt := 27) dJ9_floorDiv_f86c9_9 dJ9_floorDiv_f86c9_10 (by decide) (fun c9 => ?_) (fun c9 => ?_)
  · refine EV.lload (pc := 27) dJ9_floorDiv_f86c9_27 rfl ?_
    refine EV.lret (pc := 29) dJ9_floorDiv_f86c9_29 trivial ?_
    exact ⟨congrArg (fun z => some (Value.long z)) (by rw [Int64.le_iff_toInt_le, j_l0, j_xor_neg _ _ hy] at c9; first | exact j_fd1 hy c9 | exact j_fd2 hy c18), rfl⟩
  · refine EV.lload (pc := 13) dJ9_floorDiv_f86c9_13 rfl ?_
    refine EV.lload_n (pc := 15) dJ9_floorDiv_f86c9_15 rfl ?_
    refine EV.lmul (pc := 16) dJ9_floorDiv_f86c9_16 ?_
    refine EV.lload_n (pc := 17) dJ9_floorDiv_f86c9_17 rfl ?_
    refine EV.lcmp_eq (pc := 18) (tgt := 27) dJ9_floorDiv_f86c9_18 dJ9_floorDiv_f86c9_19 (by decide) (fun c18 => ?_) (fun c18 => ?_)
    · refine EV.lload (pc := 27) dJ9_floorDiv_f86c9_27 rfl ?_
      refine EV.lret (pc := 29) dJ9_floorDiv_f86c9_29 trivial ?_
      exact ⟨congrArg (fun z => some (Value.long z)) (by rw [Int64.le_iff_toInt_le, j_l0, j_xor_neg _ _ hy] at c9; first | exact j_fd1 hy c9 | exact j_fd2 hy c18), rfl⟩
    · refine EV.lload (pc := 22) dJ9_floorDiv_f86c9_22 rfl ?_
      refine EV.lconst (pc := 24) (v := 1) dJ9_floorDiv_f86c9_24 (by decide) ?_
      refine EV.lsub (pc := 25) dJ9_floorDiv_f86c9_25 ?_
      refine EV.lret (pc := 26) dJ9_floorDiv_f86c9_26 trivial ?_
      exact ⟨congrArg (fun z => some (Value.long z)) (by rw [Int64.le_iff_toInt_le, j_l0, j_xor_neg _ _ hy] at c9; exact j_fd3 hy c9 c18), rfl⟩

set_option maxHeartbeats 4000000 in
set_option maxRecDepth 100000 in
theorem m_mix {G : eG} {ad : Nat → Nat} {h : Nat → va_E} (x y : Int64)  : MC G M_X4_mix cX4_mix ad 54 [.long x, .long y] h (IS (some (.long (31 * x + y))) h) := by
  refine MC.of (by decide +kernel) (Nat.le_of_ble_eq_true rfl) (by dsimp only [linit, Nat.reduceSub, List.reduceReplicate] <;> rfl) ?_
  refine EV.ldc2 (pc := 0) dX4_mix_0 kcX4_318 ?_
  refine EV.lload_n (pc := 3) dX4_mix_3 rfl ?_
  refine EV.lmul (pc := 4) dX4_mix_4 ?_
  refine EV.lload_n (pc := 5) dX4_mix_5 rfl ?_
  refine EV.ladd (pc := 6) dX4_mix_6 ?_
  exact EV.lret (pc := 7) dX4_mix_7 trivial ⟨rfl, rfl⟩

set_option maxHeartbeats 4000000 in
set_option maxRecDepth 100000 in
theorem m_waveAt {G : eG} {ad : Nat → Nat} {h : Nat → va_E} (a b : Int64) (z : Int32)  : MC G M_X4_waveAt cX4_waveAt ad 54 [.long a, .long b, .int z] h (IS (some (.long (a + jI ((b * z.toInt64).toInt / 64)))) h) := by
  refine MC.of (by decide +kernel) (Nat.le_of_ble_eq_true rfl) (by dsimp only [linit, Nat.reduceSub, List.reduceReplicate] <;> rfl) ?_
  refine EV.lload_n (pc := 0) dX4_waveAt_0 rfl ?_
  refine EV.lload_n (pc := 1) dX4_waveAt_1 rfl ?_
  refine EV.iload (pc := 2) dX4_waveAt_2 rfl ?_
  refine EV.i2l (pc := 4) dX4_waveAt_4 ?_
  refine EV.lmul (pc := 5) dX4_waveAt_5 ?_
  refine EV.ldc2 (pc := 6) dX4_waveAt_6 kcX4_293 ?_
  refine EV.callSR1 (pc := 9) (M' := M_J9_floorDiv_f86c9) dX4_waveAt_9 lkX4_249 okS_J9_floorDiv_f86c9 (m_floorDivJ _ _ (by decide +kernel)) (by decide) rfl rfl (Nat.le_of_ble_eq_true rfl) ?_
  refine EV.ladd (pc := 12) dX4_waveAt_12 ?_
  exact EV.lret (pc := 13) dX4_waveAt_13 trivial ⟨rfl, rfl⟩

set_option maxHeartbeats 4000000 in
set_option maxRecDepth 100000 in
theorem n_in {G : eG} {ad : Nat → Nat} {h : Nat → va_E} (v a b : Int64)  : MC G M_X5_in cX5_in ad 54 [.long v, .long a, .long b] h (IS (some (.int (b2i (decide (a.toInt ≤ v.toInt ∧ v.toInt ≤ b.toInt))))) h) := by
  refine MC.of (by decide +kernel) (Nat.le_of_ble_eq_true rfl) (by dsimp only [linit, Nat.reduceSub, List.reduceReplicate] <;> rfl) ?_
  refine EV.lload_n (pc := 0) dX5_in_0 rfl ?_
  refine EV.lload_n (pc := 1) dX5_in_1 rfl ?_
  refine EV.lcmp_lt (pc := 2) (tgt := 17) dX5_in_2 dX5_in_3 (by decide) (fun c2 => ?_) (fun c2 => ?_)
  · refine EV.iconst (pc := 17) (v := 0) dX5_in_17 (by decide) ?_
    refine EV.iret (pc := 18) dX5_in_18 (by rfl) ?_
    exact ⟨congrArg (fun z => some (Value.int z)) (by first | exact b2i_1 (by (try simp only [Int32.lt_iff_toInt_lt, Int32.le_iff_toInt_le, ← Int32.toInt_inj, Int64.lt_iff_toInt_lt, Int64.le_iff_toInt_le, ← Int64.toInt_inj, i_l0, i_l1, i_l2, i_l5, i_l19, i_m1, j_l0, j_l1, j_l5, Int32.toInt_toInt64] at *); omega) | exact b2i_0 (by (try simp only [Int32.lt_iff_toInt_lt, Int32.le_iff_toInt_le, ← Int32.toInt_inj, Int64.lt_iff_toInt_lt, Int64.le_iff_toInt_le, ← Int64.toInt_inj, i_l0, i_l1, i_l2, i_l5, i_l19, i_m1, j_l0, j_l1, j_l5, Int32.toInt_toInt64] at *); omega)), rfl⟩
  · refine EV.lload_n (pc := 6) dX5_in_6 rfl ?_
    refine EV.lload (pc := 7) dX5_in_7 rfl ?_
    refine EV.lcmp_gt (pc := 9) (tgt := 17) dX5_in_9 dX5_in_10 (by decide) (fun c9 => ?_) (fun c9 => ?_)
    · refine EV.iconst (pc := 17) (v := 0) dX5_in_17 (by decide) ?_
      refine EV.iret (pc := 18) dX5_in_18 (by rfl) ?_
      exact ⟨congrArg (fun z => some (Value.int z)) (by first | exact b2i_1 (by (try simp only [Int32.lt_iff_toInt_lt, Int32.le_iff_toInt_le, ← Int32.toInt_inj, Int64.lt_iff_toInt_lt, Int64.le_iff_toInt_le, ← Int64.toInt_inj, i_l0, i_l1, i_l2, i_l5, i_l19, i_m1, j_l0, j_l1, j_l5, Int32.toInt_toInt64] at *); omega) | exact b2i_0 (by (try simp only [Int32.lt_iff_toInt_lt, Int32.le_iff_toInt_le, ← Int32.toInt_inj, Int64.lt_iff_toInt_lt, Int64.le_iff_toInt_le, ← Int64.toInt_inj, i_l0, i_l1, i_l2, i_l5, i_l19, i_m1, j_l0, j_l1, j_l5, Int32.toInt_toInt64] at *); omega)), rfl⟩
    · refine EV.iconst (pc := 13) (v := 1) dX5_in_13 (by decide) ?_
      refine EV.goto (pc := 14) (tgt := 18) dX5_in_14 (by decide) ?_
      refine EV.iret (pc := 18) dX5_in_18 (by rfl) ?_
      exact ⟨congrArg (fun z => some (Value.int z)) (by first | exact b2i_1 (by (try simp only [Int32.lt_iff_toInt_lt, Int32.le_iff_toInt_le, ← Int32.toInt_inj, Int64.lt_iff_toInt_lt, Int64.le_iff_toInt_le, ← Int64.toInt_inj, i_l0, i_l1, i_l2, i_l5, i_l19, i_m1, j_l0, j_l1, j_l5, Int32.toInt_toInt64] at *); omega) | exact b2i_0 (by (try simp only [Int32.lt_iff_toInt_lt, Int32.le_iff_toInt_le, ← Int32.toInt_inj, Int64.lt_iff_toInt_lt, Int64.le_iff_toInt_le, ← Int64.toInt_inj, i_l0, i_l1, i_l2, i_l5, i_l19, i_m1, j_l0, j_l1, j_l5, Int32.toInt_toInt64] at *); omega)), rfl⟩

set_option maxHeartbeats 4000000 in
set_option maxRecDepth 100000 in
theorem n_floor {G : eG} {ad : Nat → Nat} {h : Nat → va_E} (x y : Int64) (hy : 0 < y.toInt) : MC G M_X5_floor cX5_floor ad 54 [.long x, .long y] h (IS (some (.long (jI (x.toInt / y.toInt)))) h) := by
  refine MC.of (by decide +kernel) (Nat.le_of_ble_eq_true rfl) (by dsimp only [linit, Nat.reduceSub, List.reduceReplicate] <;> rfl) ?_
  refine EV.lload_n (pc := 0) dX5_floor_0 rfl ?_
  refine EV.lload_n (pc := 1) dX5_floor_1 rfl ?_
  refine EV.ldiv (pc := 2) dX5_floor_2 (j_ne0 hy) ?_
  refine EV.lstore (pc := 3) dX5_floor_3 (by decide) (by dsimp only [lst2, lno, lk] <;> rfl) ?_
  refine EV.lload_n (pc := 5) dX5_floor_5 rfl ?_
  refine EV.lload_n (pc := 6) dX5_floor_6 rfl ?_
  refine EV.lrem (pc := 7) dX5_floor_7 (j_ne0 hy) ?_
  refine EV.lconst (pc := 8) (v := 0) dX5_floor_8 (by decide) ?_
  refine EV.lcmp_eq (pc := 9) (tgt := 26) dX5_floor_9 dX5_floor_10 (by decide) (fun c9 => ?_) (fun c9 => ?_)
  · refine EV.lload (pc := 26) dX5_floor_26 rfl ?_
    refine EV.lret (pc := 28) dX5_floor_28 trivial ?_
    exact ⟨congrArg (fun z => some (Value.long z)) (by first | exact j_fd2 hy (j_rem0.mp c9) | (rw [Int64.le_iff_toInt_le, j_l0] at c15; first | exact j_fd1 hy c15 | exact j_fd3 hy c15 (fun q => c9 (j_rem0.mpr q)))), rfl⟩
  · refine EV.lload_n (pc := 13) dX5_floor_13 rfl ?_
    refine EV.lconst (pc := 14) (v := 0) dX5_floor_14 (by decide) ?_
    refine EV.lcmp_ge (pc := 15) (tgt := 26) dX5_floor_15 dX5_floor_16 (by decide) (fun c15 => ?_) (fun c15 => ?_)
    · refine EV.lload (pc := 26) dX5_floor_26 rfl ?_
      refine EV.lret (pc := 28) dX5_floor_28 trivial ?_
      exact ⟨congrArg (fun z => some (Value.long z)) (by first | exact j_fd2 hy (j_rem0.mp c9) | (rw [Int64.le_iff_toInt_le, j_l0] at c15; first | exact j_fd1 hy c15 | exact j_fd3 hy c15 (fun q => c9 (j_rem0.mpr q)))), rfl⟩
    · refine EV.lload (pc := 19) dX5_floor_19 rfl ?_
      refine EV.lconst (pc := 21) (v := 1) dX5_floor_21 (by decide) ?_
      refine EV.lsub (pc := 22) dX5_floor_22 ?_
      refine EV.goto (pc := 23) (tgt := 28) dX5_floor_23 (by decide) ?_
      refine EV.lret (pc := 28) dX5_floor_28 trivial ?_
      exact ⟨congrArg (fun z => some (Value.long z)) (by first | exact j_fd2 hy (j_rem0.mp c9) | (rw [Int64.le_iff_toInt_le, j_l0] at c15; first | exact j_fd1 hy c15 | exact j_fd3 hy c15 (fun q => c9 (j_rem0.mpr q)))), rfl⟩

set_option maxHeartbeats 4000000 in
set_option maxRecDepth 100000 in
theorem n_isPlate {G : eG} {ad : Nat → Nat} {h : Nat → va_E} (v : Int32)  : MC G M_X5_isPlate cX5_isPlate ad 54 [.int v] h (IS (some (.int (b2i (decide (0 ≤ v.toInt ∧ v.toInt ≤ 5))))) h) := by
  refine MC.of (by decide +kernel) (Nat.le_of_ble_eq_true rfl) (by dsimp only [linit, Nat.reduceSub, List.reduceReplicate] <;> rfl) ?_
  refine EV.iload_n (pc := 0) dX5_isPlate_0 rfl ?_
  refine EV.i2l (pc := 1) dX5_isPlate_1 ?_
  refine EV.lconst (pc := 2) (v := 0) dX5_isPlate_2 (by decide) ?_
  refine EV.ldc2 (pc := 3) dX5_isPlate_3 kcX5_73 ?_
  refine EV.callSR1 (pc := 6) (M' := M_X5_in) dX5_isPlate_6 lkX5_75 okS_X5_in (n_in _ _ _) (by decide) rfl rfl (Nat.le_of_ble_eq_true rfl) ?_
  refine EV.iret (pc := 9) dX5_isPlate_9 (b2i_nar _) ?_
  exact ⟨congrArg (fun z => some (Value.int z)) (by rw [Int32.toInt_toInt64]; rfl), rfl⟩

set_option maxHeartbeats 4000000 in
set_option maxRecDepth 100000 in
theorem n_cast {G : eG} {ad : Nat → Nat} {h : Nat → va_E} (a v : Int32)  : MC G M_X5_cast cX5_cast ad 54 [.int a, .int v] h (IS (some (.int (iCast v a))) h) := by
  refine MC.of (by decide +kernel) (Nat.le_of_ble_eq_true rfl) (by dsimp only [linit, Nat.reduceSub, List.reduceReplicate] <;> rfl) ?_
  refine EV.iload_n (pc := 0) dX5_cast_0 rfl ?_
  refine EV.if_ne (pc := 1) (tgt := 9) dX5_cast_1 (by decide) (fun c1 => ?_) (fun c1 => ?_)
  · refine EV.iload_n (pc := 9) dX5_cast_9 rfl ?_
    refine EV.iconst (pc := 10) (v := 1) dX5_cast_10 (by decide) ?_
    refine EV.icmp_ne (pc := 11) (tgt := 19) dX5_cast_11 (by decide) (fun c11 => ?_) (fun c11 => ?_)
    · refine EV.iload_n (pc := 19) dX5_cast_19 rfl ?_
      refine EV.iret (pc := 20) dX5_cast_20 trivial ?_
      exact ⟨congrArg (fun z => some (Value.int z)) (by simp [iCast, *]), rfl⟩
    · refine EV.iload_n (pc := 14) dX5_cast_14 rfl ?_
      refine EV.i2s (pc := 15) dX5_cast_15 ?_
      refine EV.goto (pc := 16) (tgt := 20) dX5_cast_16 (by decide) ?_
      refine EV.iret (pc := 20) dX5_cast_20 trivial ?_
      exact ⟨congrArg (fun z => some (Value.int z)) (by simp [iCast, *]), rfl⟩
  · refine EV.iload_n (pc := 4) dX5_cast_4 rfl ?_
    refine EV.i2b (pc := 5) dX5_cast_5 ?_
    refine EV.goto (pc := 6) (tgt := 20) dX5_cast_6 (by decide) ?_
    refine EV.iret (pc := 20) dX5_cast_20 trivial ?_
    exact ⟨congrArg (fun z => some (Value.int z)) (by simp [iCast, *]), rfl⟩

set_option maxHeartbeats 4000000 in
set_option maxRecDepth 100000 in
theorem n_place {G : eG} {ad : Nat → Nat} {h : Nat → va_E} (p x y : Int32)  : MC G M_X5_place cX5_place ad 54 [.int p, .int x, .int y] h (IS (some (.int (400 * p + 20 * y + x))) h) := by
  refine MC.of (by decide +kernel) (Nat.le_of_ble_eq_true rfl) (by dsimp only [linit, Nat.reduceSub, List.reduceReplicate] <;> rfl) ?_
  refine EV.sipush (pc := 0) (v := 400) dX5_place_0 (by decide) ?_
  refine EV.iload_n (pc := 3) dX5_place_3 rfl ?_
  refine EV.imul (pc := 4) dX5_place_4 ?_
  refine EV.bipush (pc := 5) (v := 20) dX5_place_5 (by decide) ?_
  refine EV.iload_n (pc := 7) dX5_place_7 rfl ?_
  refine EV.imul (pc := 8) dX5_place_8 ?_
  refine EV.iadd (pc := 9) dX5_place_9 ?_
  refine EV.iload_n (pc := 10) dX5_place_10 rfl ?_
  refine EV.iadd (pc := 11) dX5_place_11 ?_
  exact EV.iret (pc := 12) dX5_place_12 trivial ⟨rfl, rfl⟩

set_option maxHeartbeats 4000000 in
set_option maxRecDepth 100000 in
theorem n_waveOf {G : eG} {ad : Nat → Nat} {h : Nat → va_E} (a b : Int64) (z : Int32)  : MC G M_X5_waveOf cX5_waveOf ad 54 [.long a, .long b, .int z] h (IS (some (.long (a + jI ((b * z.toInt64).toInt / 64)))) h) := by
  refine MC.of (by decide +kernel) (Nat.le_of_ble_eq_true rfl) (by dsimp only [linit, Nat.reduceSub, List.reduceReplicate] <;> rfl) ?_
  refine EV.lload_n (pc := 0) dX5_waveOf_0 rfl ?_
  refine EV.lload_n (pc := 1) dX5_waveOf_1 rfl ?_
  refine EV.iload (pc := 2) dX5_waveOf_2 rfl ?_
  refine EV.i2l (pc := 4) dX5_waveOf_4 ?_
  refine EV.lmul (pc := 5) dX5_waveOf_5 ?_
  refine EV.ldc2 (pc := 6) dX5_waveOf_6 kcX5_165 ?_
  refine EV.callSR1 (pc := 9) (M' := M_X5_floor) dX5_waveOf_9 lkX5_120 okS_X5_floor (n_floor _ _ (by decide +kernel)) (by decide) rfl rfl (Nat.le_of_ble_eq_true rfl) ?_
  refine EV.ladd (pc := 12) dX5_waveOf_12 ?_
  exact EV.lret (pc := 13) dX5_waveOf_13 trivial ⟨rfl, rfl⟩

def lBnd (v : Int32) : Int := if v.toInt < 0 then 0 else if 100000 < v.toInt then 100000 else v.toInt

set_option maxHeartbeats 4000000 in
set_option maxRecDepth 100000 in
theorem n_bounded {G : eG} {ad : Nat → Nat} {h : Nat → va_E} (r : Nat) (v : Int32)  : MC G M_X5_bounded cX5_bounded ad 54 [.ref r, .int v] h (IS (some (.long (jI (lBnd v)))) h) := by
  refine MC.of (by decide +kernel) (Nat.le_of_ble_eq_true rfl) (by dsimp only [linit, Nat.reduceSub, List.reduceReplicate] <;> rfl) ?_
  refine EV.iload_n (pc := 0) dX5_bounded_0 rfl ?_
  refine EV.if_ge (pc := 1) (tgt := 8) dX5_bounded_1 (by decide) (fun c1 => ?_) (fun c1 => ?_)
  · refine EV.iload_n (pc := 8) dX5_bounded_8 rfl ?_
    refine EV.ldc (pc := 9) dX5_bounded_9 kcX5_142 ?_
    refine EV.icmp_le (pc := 11) (tgt := 20) dX5_bounded_11 (by decide) (fun c11 => ?_) (fun c11 => ?_)
    · refine EV.iload_n (pc := 20) dX5_bounded_20 rfl ?_
      refine EV.i2l (pc := 21) dX5_bounded_21 ?_
      refine EV.lret (pc := 22) dX5_bounded_22 trivial ?_
      exact ⟨congrArg (fun z => some (Value.long z)) (by simp only [Int32.lt_iff_toInt_lt, Int32.le_iff_toInt_le, i_l0, show (100000 : Int32).toInt = 100000 by decide +kernel] at *; unfold lBnd; first | (rw [if_pos (by omega)]; rfl) | (rw [if_neg (by omega), if_pos (by omega)]; rfl) | (rw [if_neg (by omega), if_neg (by omega)]; exact i_l v)), rfl⟩
    · refine EV.ldc2 (pc := 14) dX5_bounded_14 kcX5_143 ?_
      refine EV.goto (pc := 17) (tgt := 22) dX5_bounded_17 (by decide) ?_
      refine EV.lret (pc := 22) dX5_bounded_22 trivial ?_
      exact ⟨congrArg (fun z => some (Value.long z)) (by simp only [Int32.lt_iff_toInt_lt, Int32.le_iff_toInt_le, i_l0, show (100000 : Int32).toInt = 100000 by decide +kernel] at *; unfold lBnd; first | (rw [if_pos (by omega)]; rfl) | (rw [if_neg (by omega), if_pos (by omega)]; rfl) | (rw [if_neg (by omega), if_neg (by omega)]; exact i_l v)), rfl⟩
  · refine EV.lconst (pc := 4) (v := 0) dX5_bounded_4 (by decide) ?_
    refine EV.goto (pc := 5) (tgt := 22) dX5_bounded_5 (by decide) ?_
    refine EV.lret (pc := 22) dX5_bounded_22 trivial ?_
    exact ⟨congrArg (fun z => some (Value.long z)) (by simp only [Int32.lt_iff_toInt_lt, Int32.le_iff_toInt_le, i_l0, show (100000 : Int32).toInt = 100000 by decide +kernel] at *; unfold lBnd; first | (rw [if_pos (by omega)]; rfl) | (rw [if_neg (by omega), if_pos (by omega)]; rfl) | (rw [if_neg (by omega), if_neg (by omega)]; exact i_l v)), rfl⟩
end
section
/-! THE STATE, in plain words: plates (lost, lane, w, h, counts), bad cells, combs (a, b, r, columns, numbers, law), lines, the grid, seen, cause, causes, matches done. Scratch of the class (zc), of the reference (zm). -/
abbrev St : Type := (Nat → Bool) × (Nat → Nat) × (Nat → Nat) × (Nat → Nat) × (Nat → Nat → Int32) × (Nat → Bool) × (Nat) × (Nat → Nat) × (Nat → Nat) × (Nat → Nat) × (Nat → Nat) × (Nat → Nat → Nat) × (Nat → Bool) × (Nat → Int32) × (Nat → Int32) × (Nat → Int32) × (Nat) × (Nat → Int32) × (Nat) × (Nat → Int64) × (Int32) × (Int32) × (Nat → Int32) × (Nat)
abbrev s_lost (s : St) : Nat → Bool := s.1
abbrev s_lane (s : St) : Nat → Nat := s.2.1
abbrev s_w (s : St) : Nat → Nat := s.2.2.1
abbrev s_h (s : St) : Nat → Nat := s.2.2.2.1
abbrev s_ct (s : St) : Nat → Nat → Int32 := s.2.2.2.2.1
abbrev s_bad (s : St) : Nat → Bool := s.2.2.2.2.2.1
abbrev s_cn (s : St) : Nat := s.2.2.2.2.2.2.1
abbrev s_ca (s : St) : Nat → Nat := s.2.2.2.2.2.2.2.1
abbrev s_cb (s : St) : Nat → Nat := s.2.2.2.2.2.2.2.2.1
abbrev s_cr (s : St) : Nat → Nat := s.2.2.2.2.2.2.2.2.2.1
abbrev s_co (s : St) : Nat → Nat := s.2.2.2.2.2.2.2.2.2.2.1
abbrev s_nm (s : St) : Nat → Nat → Nat := s.2.2.2.2.2.2.2.2.2.2.2.1
abbrev s_li (s : St) : Nat → Bool := s.2.2.2.2.2.2.2.2.2.2.2.2.1
abbrev s_lA (s : St) : Nat → Int32 := s.2.2.2.2.2.2.2.2.2.2.2.2.2.1
abbrev s_lB (s : St) : Nat → Int32 := s.2.2.2.2.2.2.2.2.2.2.2.2.2.2.1
abbrev s_lF (s : St) : Nat → Int32 := s.2.2.2.2.2.2.2.2.2.2.2.2.2.2.2.1
abbrev s_lc (s : St) : Nat := s.2.2.2.2.2.2.2.2.2.2.2.2.2.2.2.2.1
abbrev s_ln (s : St) : Nat → Int32 := s.2.2.2.2.2.2.2.2.2.2.2.2.2.2.2.2.2.1
abbrev s_gc (s : St) : Nat := s.2.2.2.2.2.2.2.2.2.2.2.2.2.2.2.2.2.2.1
abbrev s_gr (s : St) : Nat → Int64 := s.2.2.2.2.2.2.2.2.2.2.2.2.2.2.2.2.2.2.2.1
abbrev s_sn (s : St) : Int32 := s.2.2.2.2.2.2.2.2.2.2.2.2.2.2.2.2.2.2.2.2.1
abbrev s_cs (s : St) : Int32 := s.2.2.2.2.2.2.2.2.2.2.2.2.2.2.2.2.2.2.2.2.2.1
abbrev s_cc (s : St) : Nat → Int32 := s.2.2.2.2.2.2.2.2.2.2.2.2.2.2.2.2.2.2.2.2.2.2.1
abbrev s_md (s : St) : Nat := s.2.2.2.2.2.2.2.2.2.2.2.2.2.2.2.2.2.2.2.2.2.2.2
abbrev S_lost (s : St) (v : Nat → Bool) : St := (v, s.2.1, s.2.2.1, s.2.2.2.1, s.2.2.2.2.1, s.2.2.2.2.2.1, s.2.2.2.2.2.2.1, s.2.2.2.2.2.2.2.1, s.2.2.2.2.2.2.2.2.1, s.2.2.2.2.2.2.2.2.2.1, s.2.2.2.2.2.2.2.2.2.2.1, s.2.2.2.2.2.2.2.2.2.2.2.1, s.2.2.2.2.2.2.2.2.2.2.2.2.1, s.2.2.2.2.2.2.2.2.2.2.2.2.2.1, s.2.2.2.2.2.2.2.2.2.2.2.2.2.2.1, s.2.2.2.2.2.2.2.2.2.2.2.2.2.2.2.1, s.2.2.2.2.2.2.2.2.2.2.2.2.2.2.2.2.1, s.2.2.2.2.2.2.2.2.2.2.2.2.2.2.2.2.2.1, s.2.2.2.2.2.2.2.2.2.2.2.2.2.2.2.2.2.2.1, s.2.2.2.2.2.2.2.2.2.2.2.2.2.2.2.2.2.2.2.1, s.2.2.2.2.2.2.2.2.2.2.2.2.2.2.2.2.2.2.2.2.1, s.2.2.2.2.2.2.2.2.2.2.2.2.2.2.2.2.2.2.2.2.2.1, s.2.2.2.2.2.2.2.2.2.2.2.2.2.2.2.2.2.2.2.2.2.2.1, s.2.2.2.2.2.2.2.2.2.2.2.2.2.2.2.2.2.2.2.2.2.2.2)
abbrev S_lane (s : St) (v : Nat → Nat) : St := (s.1, v, s.2.2.1, s.2.2.2.1, s.2.2.2.2.1, s.2.2.2.2.2.1, s.2.2.2.2.2.2.1, s.2.2.2.2.2.2.2.1, s.2.2.2.2.2.2.2.2.1, s.2.2.2.2.2.2.2.2.2.1, s.2.2.2.2.2.2.2.2.2.2.1, s.2.2.2.2.2.2.2.2.2.2.2.1, s.2.2.2.2.2.2.2.2.2.2.2.2.1, s.2.2.2.2.2.2.2.2.2.2.2.2.2.1, s.2.2.2.2.2.2.2.2.2.2.2.2.2.2.1, s.2.2.2.2.2.2.2.2.2.2.2.2.2.2.2.1, s.2.2.2.2.2.2.2.2.2.2.2.2.2.2.2.2.1, s.2.2.2.2.2.2.2.2.2.2.2.2.2.2.2.2.2.1, s.2.2.2.2.2.2.2.2.2.2.2.2.2.2.2.2.2.2.1, s.2.2.2.2.2.2.2.2.2.2.2.2.2.2.2.2.2.2.2.1, s.2.2.2.2.2.2.2.2.2.2.2.2.2.2.2.2.2.2.2.2.1, s.2.2.2.2.2.2.2.2.2.2.2.2.2.2.2.2.2.2.2.2.2.1, s.2.2.2.2.2.2.2.2.2.2.2.2.2.2.2.2.2.2.2.2.2.2.1, s.2.2.2.2.2.2.2.2.2.2.2.2.2.2.2.2.2.2.2.2.2.2.2)
abbrev S_w (s : St) (v : Nat → Nat) : St := (s.1, s.2.1, v, s.2.2.2.1, s.2.2.2.2.1, s.2.2.2.2.2.1, s.2.2.2.2.2.2.1, s.2.2.2.2.2.2.2.1, s.2.2.2.2.2.2.2.2.1, s.2.2.2.2.2.2.2.2.2.1, s.2.2.2.2.2.2.2.2.2.2.1, s.2.2.2.2.2.2.2.2.2.2.2.1, s.2.2.2.2.2.2.2.2.2.2.2.2.1, s.2.2.2.2.2.2.2.2.2.2.2.2.2.1, s.2.2.2.2.2.2.2.2.2.2.2.2.2.2.1, s.2.2.2.2.2.2.2.2.2.2.2.2.2.2.2.1, s.2.2.2.2.2.2.2.2.2.2.2.2.2.2.2.2.1, s.2.2.2.2.2.2.2.2.2.2.2.2.2.2.2.2.2.1, s.2.2.2.2.2.2.2.2.2.2.2.2.2.2.2.2.2.2.1, s.2.2.2.2.2.2.2.2.2.2.2.2.2.2.2.2.2.2.2.1, s.2.2.2.2.2.2.2.2.2.2.2.2.2.2.2.2.2.2.2.2.1, s.2.2.2.2.2.2.2.2.2.2.2.2.2.2.2.2.2.2.2.2.2.1, s.2.2.2.2.2.2.2.2.2.2.2.2.2.2.2.2.2.2.2.2.2.2.1, s.2.2.2.2.2.2.2.2.2.2.2.2.2.2.2.2.2.2.2.2.2.2.2)
abbrev S_h (s : St) (v : Nat → Nat) : St := (s.1, s.2.1, s.2.2.1, v, s.2.2.2.2.1, s.2.2.2.2.2.1, s.2.2.2.2.2.2.1, s.2.2.2.2.2.2.2.1, s.2.2.2.2.2.2.2.2.1, s.2.2.2.2.2.2.2.2.2.1, s.2.2.2.2.2.2.2.2.2.2.1, s.2.2.2.2.2.2.2.2.2.2.2.1, s.2.2.2.2.2.2.2.2.2.2.2.2.1, s.2.2.2.2.2.2.2.2.2.2.2.2.2.1, s.2.2.2.2.2.2.2.2.2.2.2.2.2.2.1, s.2.2.2.2.2.2.2.2.2.2.2.2.2.2.2.1, s.2.2.2.2.2.2.2.2.2.2.2.2.2.2.2.2.1, s.2.2.2.2.2.2.2.2.2.2.2.2.2.2.2.2.2.1, s.2.2.2.2.2.2.2.2.2.2.2.2.2.2.2.2.2.2.1, s.2.2.2.2.2.2.2.2.2.2.2.2.2.2.2.2.2.2.2.1, s.2.2.2.2.2.2.2.2.2.2.2.2.2.2.2.2.2.2.2.2.1, s.2.2.2.2.2.2.2.2.2.2.2.2.2.2.2.2.2.2.2.2.2.1, s.2.2.2.2.2.2.2.2.2.2.2.2.2.2.2.2.2.2.2.2.2.2.1, s.2.2.2.2.2.2.2.2.2.2.2.2.2.2.2.2.2.2.2.2.2.2.2)
abbrev S_ct (s : St) (v : Nat → Nat → Int32) : St := (s.1, s.2.1, s.2.2.1, s.2.2.2.1, v, s.2.2.2.2.2.1, s.2.2.2.2.2.2.1, s.2.2.2.2.2.2.2.1, s.2.2.2.2.2.2.2.2.1, s.2.2.2.2.2.2.2.2.2.1, s.2.2.2.2.2.2.2.2.2.2.1, s.2.2.2.2.2.2.2.2.2.2.2.1, s.2.2.2.2.2.2.2.2.2.2.2.2.1, s.2.2.2.2.2.2.2.2.2.2.2.2.2.1, s.2.2.2.2.2.2.2.2.2.2.2.2.2.2.1, s.2.2.2.2.2.2.2.2.2.2.2.2.2.2.2.1, s.2.2.2.2.2.2.2.2.2.2.2.2.2.2.2.2.1, s.2.2.2.2.2.2.2.2.2.2.2.2.2.2.2.2.2.1, s.2.2.2.2.2.2.2.2.2.2.2.2.2.2.2.2.2.2.1, s.2.2.2.2.2.2.2.2.2.2.2.2.2.2.2.2.2.2.2.1, s.2.2.2.2.2.2.2.2.2.2.2.2.2.2.2.2.2.2.2.2.1, s.2.2.2.2.2.2.2.2.2.2.2.2.2.2.2.2.2.2.2.2.2.1, s.2.2.2.2.2.2.2.2.2.2.2.2.2.2.2.2.2.2.2.2.2.2.1, s.2.2.2.2.2.2.2.2.2.2.2.2.2.2.2.2.2.2.2.2.2.2.2)
abbrev S_bad (s : St) (v : Nat → Bool) : St := (s.1, s.2.1, s.2.2.1, s.2.2.2.1, s.2.2.2.2.1, v, s.2.2.2.2.2.2.1, s.2.2.2.2.2.2.2.1, s.2.2.2.2.2.2.2.2.1, s.2.2.2.2.2.2.2.2.2.1, s.2.2.2.2.2.2.2.2.2.2.1, s.2.2.2.2.2.2.2.2.2.2.2.1, s.2.2.2.2.2.2.2.2.2.2.2.2.1, s.2.2.2.2.2.2.2.2.2.2.2.2.2.1, s.2.2.2.2.2.2.2.2.2.2.2.2.2.2.1, s.2.2.2.2.2.2.2.2.2.2.2.2.2.2.2.1, s.2.2.2.2.2.2.2.2.2.2.2.2.2.2.2.2.1, s.2.2.2.2.2.2.2.2.2.2.2.2.2.2.2.2.2.1, s.2.2.2.2.2.2.2.2.2.2.2.2.2.2.2.2.2.2.1, s.2.2.2.2.2.2.2.2.2.2.2.2.2.2.2.2.2.2.2.1, s.2.2.2.2.2.2.2.2.2.2.2.2.2.2.2.2.2.2.2.2.1, s.2.2.2.2.2.2.2.2.2.2.2.2.2.2.2.2.2.2.2.2.2.1, s.2.2.2.2.2.2.2.2.2.2.2.2.2.2.2.2.2.2.2.2.2.2.1, s.2.2.2.2.2.2.2.2.2.2.2.2.2.2.2.2.2.2.2.2.2.2.2)
abbrev S_cn (s : St) (v : Nat) : St := (s.1, s.2.1, s.2.2.1, s.2.2.2.1, s.2.2.2.2.1, s.2.2.2.2.2.1, v, s.2.2.2.2.2.2.2.1, s.2.2.2.2.2.2.2.2.1, s.2.2.2.2.2.2.2.2.2.1, s.2.2.2.2.2.2.2.2.2.2.1, s.2.2.2.2.2.2.2.2.2.2.2.1, s.2.2.2.2.2.2.2.2.2.2.2.2.1, s.2.2.2.2.2.2.2.2.2.2.2.2.2.1, s.2.2.2.2.2.2.2.2.2.2.2.2.2.2.1, s.2.2.2.2.2.2.2.2.2.2.2.2.2.2.2.1, s.2.2.2.2.2.2.2.2.2.2.2.2.2.2.2.2.1, s.2.2.2.2.2.2.2.2.2.2.2.2.2.2.2.2.2.1, s.2.2.2.2.2.2.2.2.2.2.2.2.2.2.2.2.2.2.1, s.2.2.2.2.2.2.2.2.2.2.2.2.2.2.2.2.2.2.2.1, s.2.2.2.2.2.2.2.2.2.2.2.2.2.2.2.2.2.2.2.2.1, s.2.2.2.2.2.2.2.2.2.2.2.2.2.2.2.2.2.2.2.2.2.1, s.2.2.2.2.2.2.2.2.2.2.2.2.2.2.2.2.2.2.2.2.2.2.1, s.2.2.2.2.2.2.2.2.2.2.2.2.2.2.2.2.2.2.2.2.2.2.2)
abbrev S_ca (s : St) (v : Nat → Nat) : St := (s.1, s.2.1, s.2.2.1, s.2.2.2.1, s.2.2.2.2.1, s.2.2.2.2.2.1, s.2.2.2.2.2.2.1, v, s.2.2.2.2.2.2.2.2.1, s.2.2.2.2.2.2.2.2.2.1, s.2.2.2.2.2.2.2.2.2.2.1, s.2.2.2.2.2.2.2.2.2.2.2.1, s.2.2.2.2.2.2.2.2.2.2.2.2.1, s.2.2.2.2.2.2.2.2.2.2.2.2.2.1, s.2.2.2.2.2.2.2.2.2.2.2.2.2.2.1, s.2.2.2.2.2.2.2.2.2.2.2.2.2.2.2.1, s.2.2.2.2.2.2.2.2.2.2.2.2.2.2.2.2.1, s.2.2.2.2.2.2.2.2.2.2.2.2.2.2.2.2.2.1, s.2.2.2.2.2.2.2.2.2.2.2.2.2.2.2.2.2.2.1, s.2.2.2.2.2.2.2.2.2.2.2.2.2.2.2.2.2.2.2.1, s.2.2.2.2.2.2.2.2.2.2.2.2.2.2.2.2.2.2.2.2.1, s.2.2.2.2.2.2.2.2.2.2.2.2.2.2.2.2.2.2.2.2.2.1, s.2.2.2.2.2.2.2.2.2.2.2.2.2.2.2.2.2.2.2.2.2.2.1, s.2.2.2.2.2.2.2.2.2.2.2.2.2.2.2.2.2.2.2.2.2.2.2)
abbrev S_cb (s : St) (v : Nat → Nat) : St := (s.1, s.2.1, s.2.2.1, s.2.2.2.1, s.2.2.2.2.1, s.2.2.2.2.2.1, s.2.2.2.2.2.2.1, s.2.2.2.2.2.2.2.1, v, s.2.2.2.2.2.2.2.2.2.1, s.2.2.2.2.2.2.2.2.2.2.1, s.2.2.2.2.2.2.2.2.2.2.2.1, s.2.2.2.2.2.2.2.2.2.2.2.2.1, s.2.2.2.2.2.2.2.2.2.2.2.2.2.1, s.2.2.2.2.2.2.2.2.2.2.2.2.2.2.1, s.2.2.2.2.2.2.2.2.2.2.2.2.2.2.2.1, s.2.2.2.2.2.2.2.2.2.2.2.2.2.2.2.2.1, s.2.2.2.2.2.2.2.2.2.2.2.2.2.2.2.2.2.1, s.2.2.2.2.2.2.2.2.2.2.2.2.2.2.2.2.2.2.1, s.2.2.2.2.2.2.2.2.2.2.2.2.2.2.2.2.2.2.2.1, s.2.2.2.2.2.2.2.2.2.2.2.2.2.2.2.2.2.2.2.2.1, s.2.2.2.2.2.2.2.2.2.2.2.2.2.2.2.2.2.2.2.2.2.1, s.2.2.2.2.2.2.2.2.2.2.2.2.2.2.2.2.2.2.2.2.2.2.1, s.2.2.2.2.2.2.2.2.2.2.2.2.2.2.2.2.2.2.2.2.2.2.2)
abbrev S_cr (s : St) (v : Nat → Nat) : St := (s.1, s.2.1, s.2.2.1, s.2.2.2.1, s.2.2.2.2.1, s.2.2.2.2.2.1, s.2.2.2.2.2.2.1, s.2.2.2.2.2.2.2.1, s.2.2.2.2.2.2.2.2.1, v, s.2.2.2.2.2.2.2.2.2.2.1, s.2.2.2.2.2.2.2.2.2.2.2.1, s.2.2.2.2.2.2.2.2.2.2.2.2.1, s.2.2.2.2.2.2.2.2.2.2.2.2.2.1, s.2.2.2.2.2.2.2.2.2.2.2.2.2.2.1, s.2.2.2.2.2.2.2.2.2.2.2.2.2.2.2.1, s.2.2.2.2.2.2.2.2.2.2.2.2.2.2.2.2.1, s.2.2.2.2.2.2.2.2.2.2.2.2.2.2.2.2.2.1, s.2.2.2.2.2.2.2.2.2.2.2.2.2.2.2.2.2.2.1, s.2.2.2.2.2.2.2.2.2.2.2.2.2.2.2.2.2.2.2.1, s.2.2.2.2.2.2.2.2.2.2.2.2.2.2.2.2.2.2.2.2.1, s.2.2.2.2.2.2.2.2.2.2.2.2.2.2.2.2.2.2.2.2.2.1, s.2.2.2.2.2.2.2.2.2.2.2.2.2.2.2.2.2.2.2.2.2.2.1, s.2.2.2.2.2.2.2.2.2.2.2.2.2.2.2.2.2.2.2.2.2.2.2)
abbrev S_co (s : St) (v : Nat → Nat) : St := (s.1, s.2.1, s.2.2.1, s.2.2.2.1, s.2.2.2.2.1, s.2.2.2.2.2.1, s.2.2.2.2.2.2.1, s.2.2.2.2.2.2.2.1, s.2.2.2.2.2.2.2.2.1, s.2.2.2.2.2.2.2.2.2.1, v, s.2.2.2.2.2.2.2.2.2.2.2.1, s.2.2.2.2.2.2.2.2.2.2.2.2.1, s.2.2.2.2.2.2.2.2.2.2.2.2.2.1, s.2.2.2.2.2.2.2.2.2.2.2.2.2.2.1, s.2.2.2.2.2.2.2.2.2.2.2.2.2.2.2.1, s.2.2.2.2.2.2.2.2.2.2.2.2.2.2.2.2.1, s.2.2.2.2.2.2.2.2.2.2.2.2.2.2.2.2.2.1, s.2.2.2.2.2.2.2.2.2.2.2.2.2.2.2.2.2.2.1, s.2.2.2.2.2.2.2.2.2.2.2.2.2.2.2.2.2.2.2.1, s.2.2.2.2.2.2.2.2.2.2.2.2.2.2.2.2.2.2.2.2.1, s.2.2.2.2.2.2.2.2.2.2.2.2.2.2.2.2.2.2.2.2.2.1, s.2.2.2.2.2.2.2.2.2.2.2.2.2.2.2.2.2.2.2.2.2.2.1, s.2.2.2.2.2.2.2.2.2.2.2.2.2.2.2.2.2.2.2.2.2.2.2)
abbrev S_nm (s : St) (v : Nat → Nat → Nat) : St := (s.1, s.2.1, s.2.2.1, s.2.2.2.1, s.2.2.2.2.1, s.2.2.2.2.2.1, s.2.2.2.2.2.2.1, s.2.2.2.2.2.2.2.1, s.2.2.2.2.2.2.2.2.1, s.2.2.2.2.2.2.2.2.2.1, s.2.2.2.2.2.2.2.2.2.2.1, v, s.2.2.2.2.2.2.2.2.2.2.2.2.1, s.2.2.2.2.2.2.2.2.2.2.2.2.2.1, s.2.2.2.2.2.2.2.2.2.2.2.2.2.2.1, s.2.2.2.2.2.2.2.2.2.2.2.2.2.2.2.1, s.2.2.2.2.2.2.2.2.2.2.2.2.2.2.2.2.1, s.2.2.2.2.2.2.2.2.2.2.2.2.2.2.2.2.2.1, s.2.2.2.2.2.2.2.2.2.2.2.2.2.2.2.2.2.2.1, s.2.2.2.2.2.2.2.2.2.2.2.2.2.2.2.2.2.2.2.1, s.2.2.2.2.2.2.2.2.2.2.2.2.2.2.2.2.2.2.2.2.1, s.2.2.2.2.2.2.2.2.2.2.2.2.2.2.2.2.2.2.2.2.2.1, s.2.2.2.2.2.2.2.2.2.2.2.2.2.2.2.2.2.2.2.2.2.2.1, s.2.2.2.2.2.2.2.2.2.2.2.2.2.2.2.2.2.2.2.2.2.2.2)
abbrev S_li (s : St) (v : Nat → Bool) : St := (s.1, s.2.1, s.2.2.1, s.2.2.2.1, s.2.2.2.2.1, s.2.2.2.2.2.1, s.2.2.2.2.2.2.1, s.2.2.2.2.2.2.2.1, s.2.2.2.2.2.2.2.2.1, s.2.2.2.2.2.2.2.2.2.1, s.2.2.2.2.2.2.2.2.2.2.1, s.2.2.2.2.2.2.2.2.2.2.2.1, v, s.2.2.2.2.2.2.2.2.2.2.2.2.2.1, s.2.2.2.2.2.2.2.2.2.2.2.2.2.2.1, s.2.2.2.2.2.2.2.2.2.2.2.2.2.2.2.1, s.2.2.2.2.2.2.2.2.2.2.2.2.2.2.2.2.1, s.2.2.2.2.2.2.2.2.2.2.2.2.2.2.2.2.2.1, s.2.2.2.2.2.2.2.2.2.2.2.2.2.2.2.2.2.2.1, s.2.2.2.2.2.2.2.2.2.2.2.2.2.2.2.2.2.2.2.1, s.2.2.2.2.2.2.2.2.2.2.2.2.2.2.2.2.2.2.2.2.1, s.2.2.2.2.2.2.2.2.2.2.2.2.2.2.2.2.2.2.2.2.2.1, s.2.2.2.2.2.2.2.2.2.2.2.2.2.2.2.2.2.2.2.2.2.2.1, s.2.2.2.2.2.2.2.2.2.2.2.2.2.2.2.2.2.2.2.2.2.2.2)
abbrev S_lA (s : St) (v : Nat → Int32) : St := (s.1, s.2.1, s.2.2.1, s.2.2.2.1, s.2.2.2.2.1, s.2.2.2.2.2.1, s.2.2.2.2.2.2.1, s.2.2.2.2.2.2.2.1, s.2.2.2.2.2.2.2.2.1, s.2.2.2.2.2.2.2.2.2.1, s.2.2.2.2.2.2.2.2.2.2.1, s.2.2.2.2.2.2.2.2.2.2.2.1, s.2.2.2.2.2.2.2.2.2.2.2.2.1, v, s.2.2.2.2.2.2.2.2.2.2.2.2.2.2.1, s.2.2.2.2.2.2.2.2.2.2.2.2.2.2.2.1, s.2.2.2.2.2.2.2.2.2.2.2.2.2.2.2.2.1, s.2.2.2.2.2.2.2.2.2.2.2.2.2.2.2.2.2.1, s.2.2.2.2.2.2.2.2.2.2.2.2.2.2.2.2.2.2.1, s.2.2.2.2.2.2.2.2.2.2.2.2.2.2.2.2.2.2.2.1, s.2.2.2.2.2.2.2.2.2.2.2.2.2.2.2.2.2.2.2.2.1, s.2.2.2.2.2.2.2.2.2.2.2.2.2.2.2.2.2.2.2.2.2.1, s.2.2.2.2.2.2.2.2.2.2.2.2.2.2.2.2.2.2.2.2.2.2.1, s.2.2.2.2.2.2.2.2.2.2.2.2.2.2.2.2.2.2.2.2.2.2.2)
abbrev S_lB (s : St) (v : Nat → Int32) : St := (s.1, s.2.1, s.2.2.1, s.2.2.2.1, s.2.2.2.2.1, s.2.2.2.2.2.1, s.2.2.2.2.2.2.1, s.2.2.2.2.2.2.2.1, s.2.2.2.2.2.2.2.2.1, s.2.2.2.2.2.2.2.2.2.1, s.2.2.2.2.2.2.2.2.2.2.1, s.2.2.2.2.2.2.2.2.2.2.2.1, s.2.2.2.2.2.2.2.2.2.2.2.2.1, s.2.2.2.2.2.2.2.2.2.2.2.2.2.1, v, s.2.2.2.2.2.2.2.2.2.2.2.2.2.2.2.1, s.2.2.2.2.2.2.2.2.2.2.2.2.2.2.2.2.1, s.2.2.2.2.2.2.2.2.2.2.2.2.2.2.2.2.2.1, s.2.2.2.2.2.2.2.2.2.2.2.2.2.2.2.2.2.2.1, s.2.2.2.2.2.2.2.2.2.2.2.2.2.2.2.2.2.2.2.1, s.2.2.2.2.2.2.2.2.2.2.2.2.2.2.2.2.2.2.2.2.1, s.2.2.2.2.2.2.2.2.2.2.2.2.2.2.2.2.2.2.2.2.2.1, s.2.2.2.2.2.2.2.2.2.2.2.2.2.2.2.2.2.2.2.2.2.2.1, s.2.2.2.2.2.2.2.2.2.2.2.2.2.2.2.2.2.2.2.2.2.2.2)
abbrev S_lF (s : St) (v : Nat → Int32) : St := (s.1, s.2.1, s.2.2.1, s.2.2.2.1, s.2.2.2.2.1, s.2.2.2.2.2.1, s.2.2.2.2.2.2.1, s.2.2.2.2.2.2.2.1, s.2.2.2.2.2.2.2.2.1, s.2.2.2.2.2.2.2.2.2.1, s.2.2.2.2.2.2.2.2.2.2.1, s.2.2.2.2.2.2.2.2.2.2.2.1, s.2.2.2.2.2.2.2.2.2.2.2.2.1, s.2.2.2.2.2.2.2.2.2.2.2.2.2.1, s.2.2.2.2.2.2.2.2.2.2.2.2.2.2.1, v, s.2.2.2.2.2.2.2.2.2.2.2.2.2.2.2.2.1, s.2.2.2.2.2.2.2.2.2.2.2.2.2.2.2.2.2.1, s.2.2.2.2.2.2.2.2.2.2.2.2.2.2.2.2.2.2.1, s.2.2.2.2.2.2.2.2.2.2.2.2.2.2.2.2.2.2.2.1, s.2.2.2.2.2.2.2.2.2.2.2.2.2.2.2.2.2.2.2.2.1, s.2.2.2.2.2.2.2.2.2.2.2.2.2.2.2.2.2.2.2.2.2.1, s.2.2.2.2.2.2.2.2.2.2.2.2.2.2.2.2.2.2.2.2.2.2.1, s.2.2.2.2.2.2.2.2.2.2.2.2.2.2.2.2.2.2.2.2.2.2.2)
abbrev S_lc (s : St) (v : Nat) : St := (s.1, s.2.1, s.2.2.1, s.2.2.2.1, s.2.2.2.2.1, s.2.2.2.2.2.1, s.2.2.2.2.2.2.1, s.2.2.2.2.2.2.2.1, s.2.2.2.2.2.2.2.2.1, s.2.2.2.2.2.2.2.2.2.1, s.2.2.2.2.2.2.2.2.2.2.1, s.2.2.2.2.2.2.2.2.2.2.2.1, s.2.2.2.2.2.2.2.2.2.2.2.2.1, s.2.2.2.2.2.2.2.2.2.2.2.2.2.1, s.2.2.2.2.2.2.2.2.2.2.2.2.2.2.1, s.2.2.2.2.2.2.2.2.2.2.2.2.2.2.2.1, v, s.2.2.2.2.2.2.2.2.2.2.2.2.2.2.2.2.2.1, s.2.2.2.2.2.2.2.2.2.2.2.2.2.2.2.2.2.2.1, s.2.2.2.2.2.2.2.2.2.2.2.2.2.2.2.2.2.2.2.1, s.2.2.2.2.2.2.2.2.2.2.2.2.2.2.2.2.2.2.2.2.1, s.2.2.2.2.2.2.2.2.2.2.2.2.2.2.2.2.2.2.2.2.2.1, s.2.2.2.2.2.2.2.2.2.2.2.2.2.2.2.2.2.2.2.2.2.2.1, s.2.2.2.2.2.2.2.2.2.2.2.2.2.2.2.2.2.2.2.2.2.2.2)
abbrev S_ln (s : St) (v : Nat → Int32) : St := (s.1, s.2.1, s.2.2.1, s.2.2.2.1, s.2.2.2.2.1, s.2.2.2.2.2.1, s.2.2.2.2.2.2.1, s.2.2.2.2.2.2.2.1, s.2.2.2.2.2.2.2.2.1, s.2.2.2.2.2.2.2.2.2.1, s.2.2.2.2.2.2.2.2.2.2.1, s.2.2.2.2.2.2.2.2.2.2.2.1, s.2.2.2.2.2.2.2.2.2.2.2.2.1, s.2.2.2.2.2.2.2.2.2.2.2.2.2.1, s.2.2.2.2.2.2.2.2.2.2.2.2.2.2.1, s.2.2.2.2.2.2.2.2.2.2.2.2.2.2.2.1, s.2.2.2.2.2.2.2.2.2.2.2.2.2.2.2.2.1, v, s.2.2.2.2.2.2.2.2.2.2.2.2.2.2.2.2.2.2.1, s.2.2.2.2.2.2.2.2.2.2.2.2.2.2.2.2.2.2.2.1, s.2.2.2.2.2.2.2.2.2.2.2.2.2.2.2.2.2.2.2.2.1, s.2.2.2.2.2.2.2.2.2.2.2.2.2.2.2.2.2.2.2.2.2.1, s.2.2.2.2.2.2.2.2.2.2.2.2.2.2.2.2.2.2.2.2.2.2.1, s.2.2.2.2.2.2.2.2.2.2.2.2.2.2.2.2.2.2.2.2.2.2.2)
abbrev S_gc (s : St) (v : Nat) : St := (s.1, s.2.1, s.2.2.1, s.2.2.2.1, s.2.2.2.2.1, s.2.2.2.2.2.1, s.2.2.2.2.2.2.1, s.2.2.2.2.2.2.2.1, s.2.2.2.2.2.2.2.2.1, s.2.2.2.2.2.2.2.2.2.1, s.2.2.2.2.2.2.2.2.2.2.1, s.2.2.2.2.2.2.2.2.2.2.2.1, s.2.2.2.2.2.2.2.2.2.2.2.2.1, s.2.2.2.2.2.2.2.2.2.2.2.2.2.1, s.2.2.2.2.2.2.2.2.2.2.2.2.2.2.1, s.2.2.2.2.2.2.2.2.2.2.2.2.2.2.2.1, s.2.2.2.2.2.2.2.2.2.2.2.2.2.2.2.2.1, s.2.2.2.2.2.2.2.2.2.2.2.2.2.2.2.2.2.1, v, s.2.2.2.2.2.2.2.2.2.2.2.2.2.2.2.2.2.2.2.1, s.2.2.2.2.2.2.2.2.2.2.2.2.2.2.2.2.2.2.2.2.1, s.2.2.2.2.2.2.2.2.2.2.2.2.2.2.2.2.2.2.2.2.2.1, s.2.2.2.2.2.2.2.2.2.2.2.2.2.2.2.2.2.2.2.2.2.2.1, s.2.2.2.2.2.2.2.2.2.2.2.2.2.2.2.2.2.2.2.2.2.2.2)
abbrev S_gr (s : St) (v : Nat → Int64) : St := (s.1, s.2.1, s.2.2.1, s.2.2.2.1, s.2.2.2.2.1, s.2.2.2.2.2.1, s.2.2.2.2.2.2.1, s.2.2.2.2.2.2.2.1, s.2.2.2.2.2.2.2.2.1, s.2.2.2.2.2.2.2.2.2.1, s.2.2.2.2.2.2.2.2.2.2.1, s.2.2.2.2.2.2.2.2.2.2.2.1, s.2.2.2.2.2.2.2.2.2.2.2.2.1, s.2.2.2.2.2.2.2.2.2.2.2.2.2.1, s.2.2.2.2.2.2.2.2.2.2.2.2.2.2.1, s.2.2.2.2.2.2.2.2.2.2.2.2.2.2.2.1, s.2.2.2.2.2.2.2.2.2.2.2.2.2.2.2.2.1, s.2.2.2.2.2.2.2.2.2.2.2.2.2.2.2.2.2.1, s.2.2.2.2.2.2.2.2.2.2.2.2.2.2.2.2.2.2.1, v, s.2.2.2.2.2.2.2.2.2.2.2.2.2.2.2.2.2.2.2.2.1, s.2.2.2.2.2.2.2.2.2.2.2.2.2.2.2.2.2.2.2.2.2.1, s.2.2.2.2.2.2.2.2.2.2.2.2.2.2.2.2.2.2.2.2.2.2.1, s.2.2.2.2.2.2.2.2.2.2.2.2.2.2.2.2.2.2.2.2.2.2.2)
abbrev S_sn (s : St) (v : Int32) : St := (s.1, s.2.1, s.2.2.1, s.2.2.2.1, s.2.2.2.2.1, s.2.2.2.2.2.1, s.2.2.2.2.2.2.1, s.2.2.2.2.2.2.2.1, s.2.2.2.2.2.2.2.2.1, s.2.2.2.2.2.2.2.2.2.1, s.2.2.2.2.2.2.2.2.2.2.1, s.2.2.2.2.2.2.2.2.2.2.2.1, s.2.2.2.2.2.2.2.2.2.2.2.2.1, s.2.2.2.2.2.2.2.2.2.2.2.2.2.1, s.2.2.2.2.2.2.2.2.2.2.2.2.2.2.1, s.2.2.2.2.2.2.2.2.2.2.2.2.2.2.2.1, s.2.2.2.2.2.2.2.2.2.2.2.2.2.2.2.2.1, s.2.2.2.2.2.2.2.2.2.2.2.2.2.2.2.2.2.1, s.2.2.2.2.2.2.2.2.2.2.2.2.2.2.2.2.2.2.1, s.2.2.2.2.2.2.2.2.2.2.2.2.2.2.2.2.2.2.2.1, v, s.2.2.2.2.2.2.2.2.2.2.2.2.2.2.2.2.2.2.2.2.2.1, s.2.2.2.2.2.2.2.2.2.2.2.2.2.2.2.2.2.2.2.2.2.2.1, s.2.2.2.2.2.2.2.2.2.2.2.2.2.2.2.2.2.2.2.2.2.2.2)
abbrev S_cs (s : St) (v : Int32) : St := (s.1, s.2.1, s.2.2.1, s.2.2.2.1, s.2.2.2.2.1, s.2.2.2.2.2.1, s.2.2.2.2.2.2.1, s.2.2.2.2.2.2.2.1, s.2.2.2.2.2.2.2.2.1, s.2.2.2.2.2.2.2.2.2.1, s.2.2.2.2.2.2.2.2.2.2.1, s.2.2.2.2.2.2.2.2.2.2.2.1, s.2.2.2.2.2.2.2.2.2.2.2.2.1, s.2.2.2.2.2.2.2.2.2.2.2.2.2.1, s.2.2.2.2.2.2.2.2.2.2.2.2.2.2.1, s.2.2.2.2.2.2.2.2.2.2.2.2.2.2.2.1, s.2.2.2.2.2.2.2.2.2.2.2.2.2.2.2.2.1, s.2.2.2.2.2.2.2.2.2.2.2.2.2.2.2.2.2.1, s.2.2.2.2.2.2.2.2.2.2.2.2.2.2.2.2.2.2.1, s.2.2.2.2.2.2.2.2.2.2.2.2.2.2.2.2.2.2.2.1, s.2.2.2.2.2.2.2.2.2.2.2.2.2.2.2.2.2.2.2.2.1, v, s.2.2.2.2.2.2.2.2.2.2.2.2.2.2.2.2.2.2.2.2.2.2.1, s.2.2.2.2.2.2.2.2.2.2.2.2.2.2.2.2.2.2.2.2.2.2.2)
abbrev S_cc (s : St) (v : Nat → Int32) : St := (s.1, s.2.1, s.2.2.1, s.2.2.2.1, s.2.2.2.2.1, s.2.2.2.2.2.1, s.2.2.2.2.2.2.1, s.2.2.2.2.2.2.2.1, s.2.2.2.2.2.2.2.2.1, s.2.2.2.2.2.2.2.2.2.1, s.2.2.2.2.2.2.2.2.2.2.1, s.2.2.2.2.2.2.2.2.2.2.2.1, s.2.2.2.2.2.2.2.2.2.2.2.2.1, s.2.2.2.2.2.2.2.2.2.2.2.2.2.1, s.2.2.2.2.2.2.2.2.2.2.2.2.2.2.1, s.2.2.2.2.2.2.2.2.2.2.2.2.2.2.2.1, s.2.2.2.2.2.2.2.2.2.2.2.2.2.2.2.2.1, s.2.2.2.2.2.2.2.2.2.2.2.2.2.2.2.2.2.1, s.2.2.2.2.2.2.2.2.2.2.2.2.2.2.2.2.2.2.1, s.2.2.2.2.2.2.2.2.2.2.2.2.2.2.2.2.2.2.2.1, s.2.2.2.2.2.2.2.2.2.2.2.2.2.2.2.2.2.2.2.2.1, s.2.2.2.2.2.2.2.2.2.2.2.2.2.2.2.2.2.2.2.2.2.1, v, s.2.2.2.2.2.2.2.2.2.2.2.2.2.2.2.2.2.2.2.2.2.2.2)
abbrev S_md (s : St) (v : Nat) : St := (s.1, s.2.1, s.2.2.1, s.2.2.2.1, s.2.2.2.2.1, s.2.2.2.2.2.1, s.2.2.2.2.2.2.1, s.2.2.2.2.2.2.2.1, s.2.2.2.2.2.2.2.2.1, s.2.2.2.2.2.2.2.2.2.1, s.2.2.2.2.2.2.2.2.2.2.1, s.2.2.2.2.2.2.2.2.2.2.2.1, s.2.2.2.2.2.2.2.2.2.2.2.2.1, s.2.2.2.2.2.2.2.2.2.2.2.2.2.1, s.2.2.2.2.2.2.2.2.2.2.2.2.2.2.1, s.2.2.2.2.2.2.2.2.2.2.2.2.2.2.2.1, s.2.2.2.2.2.2.2.2.2.2.2.2.2.2.2.2.1, s.2.2.2.2.2.2.2.2.2.2.2.2.2.2.2.2.2.1, s.2.2.2.2.2.2.2.2.2.2.2.2.2.2.2.2.2.2.1, s.2.2.2.2.2.2.2.2.2.2.2.2.2.2.2.2.2.2.2.1, s.2.2.2.2.2.2.2.2.2.2.2.2.2.2.2.2.2.2.2.2.1, s.2.2.2.2.2.2.2.2.2.2.2.2.2.2.2.2.2.2.2.2.2.1, s.2.2.2.2.2.2.2.2.2.2.2.2.2.2.2.2.2.2.2.2.2.2.1, v)
abbrev Zc : Type := (Nat → Int32) × (Int32) × (Int64) × (Int64) × (Int64) × (Int64) × (Bool) × (Int32) × (Int32) × (Int32)
abbrev c_pp (s : Zc) : Nat → Int32 := s.1
abbrev c_sr (s : Zc) : Int32 := s.2.1
abbrev c_sl (s : Zc) : Int64 := s.2.2.1
abbrev c_sf (s : Zc) : Int64 := s.2.2.2.1
abbrev c_sq (s : Zc) : Int64 := s.2.2.2.2.1
abbrev c_sp (s : Zc) : Int64 := s.2.2.2.2.2.1
abbrev c_bi (s : Zc) : Bool := s.2.2.2.2.2.2.1
abbrev c_ba (s : Zc) : Int32 := s.2.2.2.2.2.2.2.1
abbrev c_bb (s : Zc) : Int32 := s.2.2.2.2.2.2.2.2.1
abbrev c_bf (s : Zc) : Int32 := s.2.2.2.2.2.2.2.2.2
abbrev C_pp (s : Zc) (v : Nat → Int32) : Zc := (v, s.2.1, s.2.2.1, s.2.2.2.1, s.2.2.2.2.1, s.2.2.2.2.2.1, s.2.2.2.2.2.2.1, s.2.2.2.2.2.2.2.1, s.2.2.2.2.2.2.2.2.1, s.2.2.2.2.2.2.2.2.2)
abbrev C_sr (s : Zc) (v : Int32) : Zc := (s.1, v, s.2.2.1, s.2.2.2.1, s.2.2.2.2.1, s.2.2.2.2.2.1, s.2.2.2.2.2.2.1, s.2.2.2.2.2.2.2.1, s.2.2.2.2.2.2.2.2.1, s.2.2.2.2.2.2.2.2.2)
abbrev C_sl (s : Zc) (v : Int64) : Zc := (s.1, s.2.1, v, s.2.2.2.1, s.2.2.2.2.1, s.2.2.2.2.2.1, s.2.2.2.2.2.2.1, s.2.2.2.2.2.2.2.1, s.2.2.2.2.2.2.2.2.1, s.2.2.2.2.2.2.2.2.2)
abbrev C_sf (s : Zc) (v : Int64) : Zc := (s.1, s.2.1, s.2.2.1, v, s.2.2.2.2.1, s.2.2.2.2.2.1, s.2.2.2.2.2.2.1, s.2.2.2.2.2.2.2.1, s.2.2.2.2.2.2.2.2.1, s.2.2.2.2.2.2.2.2.2)
abbrev C_sq (s : Zc) (v : Int64) : Zc := (s.1, s.2.1, s.2.2.1, s.2.2.2.1, v, s.2.2.2.2.2.1, s.2.2.2.2.2.2.1, s.2.2.2.2.2.2.2.1, s.2.2.2.2.2.2.2.2.1, s.2.2.2.2.2.2.2.2.2)
abbrev C_sp (s : Zc) (v : Int64) : Zc := (s.1, s.2.1, s.2.2.1, s.2.2.2.1, s.2.2.2.2.1, v, s.2.2.2.2.2.2.1, s.2.2.2.2.2.2.2.1, s.2.2.2.2.2.2.2.2.1, s.2.2.2.2.2.2.2.2.2)
abbrev C_bi (s : Zc) (v : Bool) : Zc := (s.1, s.2.1, s.2.2.1, s.2.2.2.1, s.2.2.2.2.1, s.2.2.2.2.2.1, v, s.2.2.2.2.2.2.2.1, s.2.2.2.2.2.2.2.2.1, s.2.2.2.2.2.2.2.2.2)
abbrev C_ba (s : Zc) (v : Int32) : Zc := (s.1, s.2.1, s.2.2.1, s.2.2.2.1, s.2.2.2.2.1, s.2.2.2.2.2.1, s.2.2.2.2.2.2.1, v, s.2.2.2.2.2.2.2.2.1, s.2.2.2.2.2.2.2.2.2)
abbrev C_bb (s : Zc) (v : Int32) : Zc := (s.1, s.2.1, s.2.2.1, s.2.2.2.1, s.2.2.2.2.1, s.2.2.2.2.2.1, s.2.2.2.2.2.2.1, s.2.2.2.2.2.2.2.1, v, s.2.2.2.2.2.2.2.2.2)
abbrev C_bf (s : Zc) (v : Int32) : Zc := (s.1, s.2.1, s.2.2.1, s.2.2.2.1, s.2.2.2.2.1, s.2.2.2.2.2.1, s.2.2.2.2.2.2.1, s.2.2.2.2.2.2.2.1, s.2.2.2.2.2.2.2.2.1, v)
abbrev Zm : Type := (Int32) × (Nat → Int32) × (Int32) × (Int64) × (Int64) × (Int64) × (Nat → Int32) × (Nat → Int32) × (Nat → Int32)
abbrev m_pm (s : Zm) : Int32 := s.1
abbrev m_pp (s : Zm) : Nat → Int32 := s.2.1
abbrev m_mo (s : Zm) : Int32 := s.2.2.1
abbrev m_bA (s : Zm) : Int64 := s.2.2.2.1
abbrev m_bB (s : Zm) : Int64 := s.2.2.2.2.1
abbrev m_hh (s : Zm) : Int64 := s.2.2.2.2.2.1
abbrev m_jA (s : Zm) : Nat → Int32 := s.2.2.2.2.2.2.1
abbrev m_jB (s : Zm) : Nat → Int32 := s.2.2.2.2.2.2.2.1
abbrev m_jF (s : Zm) : Nat → Int32 := s.2.2.2.2.2.2.2.2
abbrev M_pm (s : Zm) (v : Int32) : Zm := (v, s.2.1, s.2.2.1, s.2.2.2.1, s.2.2.2.2.1, s.2.2.2.2.2.1, s.2.2.2.2.2.2.1, s.2.2.2.2.2.2.2.1, s.2.2.2.2.2.2.2.2)
abbrev M_pp (s : Zm) (v : Nat → Int32) : Zm := (s.1, v, s.2.2.1, s.2.2.2.1, s.2.2.2.2.1, s.2.2.2.2.2.1, s.2.2.2.2.2.2.1, s.2.2.2.2.2.2.2.1, s.2.2.2.2.2.2.2.2)
abbrev M_mo (s : Zm) (v : Int32) : Zm := (s.1, s.2.1, v, s.2.2.2.1, s.2.2.2.2.1, s.2.2.2.2.2.1, s.2.2.2.2.2.2.1, s.2.2.2.2.2.2.2.1, s.2.2.2.2.2.2.2.2)
abbrev M_bA (s : Zm) (v : Int64) : Zm := (s.1, s.2.1, s.2.2.1, v, s.2.2.2.2.1, s.2.2.2.2.2.1, s.2.2.2.2.2.2.1, s.2.2.2.2.2.2.2.1, s.2.2.2.2.2.2.2.2)
abbrev M_bB (s : Zm) (v : Int64) : Zm := (s.1, s.2.1, s.2.2.1, s.2.2.2.1, v, s.2.2.2.2.2.1, s.2.2.2.2.2.2.1, s.2.2.2.2.2.2.2.1, s.2.2.2.2.2.2.2.2)
abbrev M_hh (s : Zm) (v : Int64) : Zm := (s.1, s.2.1, s.2.2.1, s.2.2.2.1, s.2.2.2.2.1, v, s.2.2.2.2.2.2.1, s.2.2.2.2.2.2.2.1, s.2.2.2.2.2.2.2.2)
abbrev M_jA (s : Zm) (v : Nat → Int32) : Zm := (s.1, s.2.1, s.2.2.1, s.2.2.2.1, s.2.2.2.2.1, s.2.2.2.2.2.1, v, s.2.2.2.2.2.2.2.1, s.2.2.2.2.2.2.2.2)
abbrev M_jB (s : Zm) (v : Nat → Int32) : Zm := (s.1, s.2.1, s.2.2.1, s.2.2.2.1, s.2.2.2.2.1, s.2.2.2.2.2.1, s.2.2.2.2.2.2.1, v, s.2.2.2.2.2.2.2.2)
abbrev M_jF (s : Zm) (v : Nat → Int32) : Zm := (s.1, s.2.1, s.2.2.1, s.2.2.2.1, s.2.2.2.2.1, s.2.2.2.2.2.1, s.2.2.2.2.2.2.1, s.2.2.2.2.2.2.2.1, v)
def oC (ad : Nat → Nat) (s : St) : va_E := .inr (4, [.ref (ad 1), .ref (ad 2), .ref (ad 3), .int (nI (s_cn s)), .ref (ad 4), .int (nI (s_lc s)), .ref (ad 5), .int (nI (s_gc s)), .int (s_sn s), .int (s_cs s), .ref (ad 6), .int (nI (s_md s)), .ref (ad 7), .ref (ad 8), .ref (ad 9)])
def oP (ad : Nat → Nat) (s : St) (p : Nat) : va_E := .inr (2, [.int (b2i (s_lost s p)), .int (nI (s_lane s p)), .int (nI (s_w s p)), .int (nI (s_h s p)), .ref (ad (11 + 2 * p))])
def oK (ad : Nat → Nat) (s : St) (c : Nat) : va_E := .inr (0, [.int (nI (s_ca s c)), .int (nI (s_cb s c)), .int (nI (s_cr s c)), .int (nI (s_co s c)), .ref (ad (23 + 3 * c)), .ref (ad (24 + 3 * c))])
def oL (s : St) (c : Nat) : va_E := .inr (1, [.int (b2i (s_li s c)), .int (s_lA s c), .int (s_lB s c), .int (s_lF s c)])
def CW (G : eG) (ad : Nat → Nat) (s : St) (z : Zc) (hm h : Nat → va_E) : Prop :=
  (h 0 = oC ad s) ∧
  (h 1 = .inl (G.2.2 3, 6, .inr (.inr (.inr (.inr (fun i => some (ad (10 + 2 * i)))))))) ∧
  (h 2 = .inl (G.2.2 2, 400, .inl (fun i => b2i (s_bad s i)))) ∧
  (h 3 = .inl (G.2.2 4, 4, .inr (.inr (.inr (.inr (fun i => some (ad (22 + 3 * i)))))))) ∧
  (h 4 = .inl (G.2.2 0, 12, .inl (s_ln s))) ∧
  (h 5 = .inl (G.2.2 1, 60, .inr (.inl (s_gr s)))) ∧
  (h 6 = .inl (G.2.2 0, 6, .inl (s_cc s))) ∧
  (h 7 = .inl (G.2.2 0, 20, .inl (c_pp z))) ∧
  (h 8 = .inr (3, [.int (c_sr z), .long (c_sl z), .long (c_sf z), .long (c_sq z), .long (c_sp z)])) ∧
  (h 9 = .inr (1, [.int (b2i (c_bi z)), .int (c_ba z), .int (c_bb z), .int (c_bf z)])) ∧
  (∀ p : Nat, p < 6 → h (10 + 2 * p) = oP ad s p) ∧
  (∀ p : Nat, p < 6 → h (11 + 2 * p) = .inl (G.2.2 0, 400, .inl (s_ct s p))) ∧
  (∀ c : Nat, c < 4 → h (22 + 3 * c) = oK ad s c) ∧
  (∀ c : Nat, c < 4 → h (23 + 3 * c) = .inl (G.2.2 1, 20, .inr (.inl (fun x => lN (s_nm s c x))))) ∧
  (∀ c : Nat, c < 4 → h (24 + 3 * c) = oL s c) ∧
  (∀ k : Nat, 34 ≤ k → h k = hm k)
theorem CW.h0 {G : eG} {ad : Nat → Nat} {s : St} {z : Zc} {hm h : Nat → va_E} (hw : CW G ad s z hm h) : h 0 = oC ad s := hw.1
theorem CW.h1 {G : eG} {ad : Nat → Nat} {s : St} {z : Zc} {hm h : Nat → va_E} (hw : CW G ad s z hm h) : h 1 = .inl (G.2.2 3, 6, .inr (.inr (.inr (.inr (fun i => some (ad (10 + 2 * i))))))) := hw.2.1
theorem CW.h2 {G : eG} {ad : Nat → Nat} {s : St} {z : Zc} {hm h : Nat → va_E} (hw : CW G ad s z hm h) : h 2 = .inl (G.2.2 2, 400, .inl (fun i => b2i (s_bad s i))) := hw.2.2.1
theorem CW.h3 {G : eG} {ad : Nat → Nat} {s : St} {z : Zc} {hm h : Nat → va_E} (hw : CW G ad s z hm h) : h 3 = .inl (G.2.2 4, 4, .inr (.inr (.inr (.inr (fun i => some (ad (22 + 3 * i))))))) := hw.2.2.2.1
theorem CW.h4 {G : eG} {ad : Nat → Nat} {s : St} {z : Zc} {hm h : Nat → va_E} (hw : CW G ad s z hm h) : h 4 = .inl (G.2.2 0, 12, .inl (s_ln s)) := hw.2.2.2.2.1
theorem CW.h5 {G : eG} {ad : Nat → Nat} {s : St} {z : Zc} {hm h : Nat → va_E} (hw : CW G ad s z hm h) : h 5 = .inl (G.2.2 1, 60, .inr (.inl (s_gr s))) := hw.2.2.2.2.2.1
theorem CW.h6 {G : eG} {ad : Nat → Nat} {s : St} {z : Zc} {hm h : Nat → va_E} (hw : CW G ad s z hm h) : h 6 = .inl (G.2.2 0, 6, .inl (s_cc s)) := hw.2.2.2.2.2.2.1
theorem CW.h7 {G : eG} {ad : Nat → Nat} {s : St} {z : Zc} {hm h : Nat → va_E} (hw : CW G ad s z hm h) : h 7 = .inl (G.2.2 0, 20, .inl (c_pp z)) := hw.2.2.2.2.2.2.2.1
theorem CW.h8 {G : eG} {ad : Nat → Nat} {s : St} {z : Zc} {hm h : Nat → va_E} (hw : CW G ad s z hm h) : h 8 = .inr (3, [.int (c_sr z), .long (c_sl z), .long (c_sf z), .long (c_sq z), .long (c_sp z)]) := hw.2.2.2.2.2.2.2.2.1
theorem CW.h9 {G : eG} {ad : Nat → Nat} {s : St} {z : Zc} {hm h : Nat → va_E} (hw : CW G ad s z hm h) : h 9 = .inr (1, [.int (b2i (c_bi z)), .int (c_ba z), .int (c_bb z), .int (c_bf z)]) := hw.2.2.2.2.2.2.2.2.2.1
theorem CW.pl {G : eG} {ad : Nat → Nat} {s : St} {z : Zc} {hm h : Nat → va_E} (hw : CW G ad s z hm h) : ∀ p : Nat, p < 6 → h (10 + 2 * p) = oP ad s p := hw.2.2.2.2.2.2.2.2.2.2.1
theorem CW.ct {G : eG} {ad : Nat → Nat} {s : St} {z : Zc} {hm h : Nat → va_E} (hw : CW G ad s z hm h) : ∀ p : Nat, p < 6 → h (11 + 2 * p) = .inl (G.2.2 0, 400, .inl (s_ct s p)) := hw.2.2.2.2.2.2.2.2.2.2.2.1
theorem CW.kb {G : eG} {ad : Nat → Nat} {s : St} {z : Zc} {hm h : Nat → va_E} (hw : CW G ad s z hm h) : ∀ c : Nat, c < 4 → h (22 + 3 * c) = oK ad s c := hw.2.2.2.2.2.2.2.2.2.2.2.2.1
theorem CW.nm {G : eG} {ad : Nat → Nat} {s : St} {z : Zc} {hm h : Nat → va_E} (hw : CW G ad s z hm h) : ∀ c : Nat, c < 4 → h (23 + 3 * c) = .inl (G.2.2 1, 20, .inr (.inl (fun x => lN (s_nm s c x)))) := hw.2.2.2.2.2.2.2.2.2.2.2.2.2.1
theorem CW.lw {G : eG} {ad : Nat → Nat} {s : St} {z : Zc} {hm h : Nat → va_E} (hw : CW G ad s z hm h) : ∀ c : Nat, c < 4 → h (24 + 3 * c) = oL s c := hw.2.2.2.2.2.2.2.2.2.2.2.2.2.2.1
theorem CW.fr {G : eG} {ad : Nat → Nat} {s : St} {z : Zc} {hm h : Nat → va_E} (hw : CW G ad s z hm h) : ∀ k : Nat, 34 ≤ k → h k = hm k := hw.2.2.2.2.2.2.2.2.2.2.2.2.2.2.2
theorem va_up_n {α : Type} {f : Nat → α} {k j : Nat} {v : α} (h : j ≠ k) : va_up f k v j = f j := by simp [va_up, h]
theorem va_up_s {α : Type} {f : Nat → α} {k : Nat} {v : α} : va_up f k v k = v := by simp [va_up]
theorem CW.set_cn {G : eG} {ad : Nat → Nat} {s : St} {z : Zc} {hm h : Nat → va_E} (hw : CW G ad s z hm h) (v : Nat)  : CW G ad (S_cn s v) z hm (va_up h 0 (oC ad (S_cn s v))) := by
  refine ⟨?_, ?_, ?_, ?_, ?_, ?_, ?_, ?_, ?_, ?_, ?_, ?_, ?_, ?_, ?_, ?_⟩
  · exact va_up_s
  · exact (va_up_n (by omega)).trans hw.h1
  · exact (va_up_n (by omega)).trans hw.h2
  · exact (va_up_n (by omega)).trans hw.h3
  · exact (va_up_n (by omega)).trans hw.h4
  · exact (va_up_n (by omega)).trans hw.h5
  · exact (va_up_n (by omega)).trans hw.h6
  · exact (va_up_n (by omega)).trans hw.h7
  · exact (va_up_n (by omega)).trans hw.h8
  · exact (va_up_n (by omega)).trans hw.h9
  · exact fun j hj => (va_up_n (by omega)).trans (hw.pl j hj)
  · exact fun j hj => (va_up_n (by omega)).trans (hw.ct j hj)
  · exact fun j hj => (va_up_n (by omega)).trans (hw.kb j hj)
  · exact fun j hj => (va_up_n (by omega)).trans (hw.nm j hj)
  · exact fun j hj => (va_up_n (by omega)).trans (hw.lw j hj)
  · exact fun j hj => (va_up_n (by omega)).trans (hw.fr j hj)
theorem CW.set_lc {G : eG} {ad : Nat → Nat} {s : St} {z : Zc} {hm h : Nat → va_E} (hw : CW G ad s z hm h) (v : Nat)  : CW G ad (S_lc s v) z hm (va_up h 0 (oC ad (S_lc s v))) := by
  refine ⟨?_, ?_, ?_, ?_, ?_, ?_, ?_, ?_, ?_, ?_, ?_, ?_, ?_, ?_, ?_, ?_⟩
  · exact va_up_s
  · exact (va_up_n (by omega)).trans hw.h1
  · exact (va_up_n (by omega)).trans hw.h2
  · exact (va_up_n (by omega)).trans hw.h3
  · exact (va_up_n (by omega)).trans hw.h4
  · exact (va_up_n (by omega)).trans hw.h5
  · exact (va_up_n (by omega)).trans hw.h6
  · exact (va_up_n (by omega)).trans hw.h7
  · exact (va_up_n (by omega)).trans hw.h8
  · exact (va_up_n (by omega)).trans hw.h9
  · exact fun j hj => (va_up_n (by omega)).trans (hw.pl j hj)
  · exact fun j hj => (va_up_n (by omega)).trans (hw.ct j hj)
  · exact fun j hj => (va_up_n (by omega)).trans (hw.kb j hj)
  · exact fun j hj => (va_up_n (by omega)).trans (hw.nm j hj)
  · exact fun j hj => (va_up_n (by omega)).trans (hw.lw j hj)
  · exact fun j hj => (va_up_n (by omega)).trans (hw.fr j hj)
theorem CW.set_gc {G : eG} {ad : Nat → Nat} {s : St} {z : Zc} {hm h : Nat → va_E} (hw : CW G ad s z hm h) (v : Nat)  : CW G ad (S_gc s v) z hm (va_up h 0 (oC ad (S_gc s v))) := by
  refine ⟨?_, ?_, ?_, ?_, ?_, ?_, ?_, ?_, ?_, ?_, ?_, ?_, ?_, ?_, ?_, ?_⟩
  · exact va_up_s
  · exact (va_up_n (by omega)).trans hw.h1
  · exact (va_up_n (by omega)).trans hw.h2
  · exact (va_up_n (by omega)).trans hw.h3
  · exact (va_up_n (by omega)).trans hw.h4
  · exact (va_up_n (by omega)).trans hw.h5
  · exact (va_up_n (by omega)).trans hw.h6
  · exact (va_up_n (by omega)).trans hw.h7
  · exact (va_up_n (by omega)).trans hw.h8
  · exact (va_up_n (by omega)).trans hw.h9
  · exact fun j hj => (va_up_n (by omega)).trans (hw.pl j hj)
  · exact fun j hj => (va_up_n (by omega)).trans (hw.ct j hj)
  · exact fun j hj => (va_up_n (by omega)).trans (hw.kb j hj)
  · exact fun j hj => (va_up_n (by omega)).trans (hw.nm j hj)
  · exact fun j hj => (va_up_n (by omega)).trans (hw.lw j hj)
  · exact fun j hj => (va_up_n (by omega)).trans (hw.fr j hj)
theorem CW.set_sn {G : eG} {ad : Nat → Nat} {s : St} {z : Zc} {hm h : Nat → va_E} (hw : CW G ad s z hm h) (v : Int32)  : CW G ad (S_sn s v) z hm (va_up h 0 (oC ad (S_sn s v))) := by
  refine ⟨?_, ?_, ?_, ?_, ?_, ?_, ?_, ?_, ?_, ?_, ?_, ?_, ?_, ?_, ?_, ?_⟩
  · exact va_up_s
  · exact (va_up_n (by omega)).trans hw.h1
  · exact (va_up_n (by omega)).trans hw.h2
  · exact (va_up_n (by omega)).trans hw.h3
  · exact (va_up_n (by omega)).trans hw.h4
  · exact (va_up_n (by omega)).trans hw.h5
  · exact (va_up_n (by omega)).trans hw.h6
  · exact (va_up_n (by omega)).trans hw.h7
  · exact (va_up_n (by omega)).trans hw.h8
  · exact (va_up_n (by omega)).trans hw.h9
  · exact fun j hj => (va_up_n (by omega)).trans (hw.pl j hj)
  · exact fun j hj => (va_up_n (by omega)).trans (hw.ct j hj)
  · exact fun j hj => (va_up_n (by omega)).trans (hw.kb j hj)
  · exact fun j hj => (va_up_n (by omega)).trans (hw.nm j hj)
  · exact fun j hj => (va_up_n (by omega)).trans (hw.lw j hj)
  · exact fun j hj => (va_up_n (by omega)).trans (hw.fr j hj)
theorem CW.set_cs {G : eG} {ad : Nat → Nat} {s : St} {z : Zc} {hm h : Nat → va_E} (hw : CW G ad s z hm h) (v : Int32)  : CW G ad (S_cs s v) z hm (va_up h 0 (oC ad (S_cs s v))) := by
  refine ⟨?_, ?_, ?_, ?_, ?_, ?_, ?_, ?_, ?_, ?_, ?_, ?_, ?_, ?_, ?_, ?_⟩
  · exact va_up_s
  · exact (va_up_n (by omega)).trans hw.h1
  · exact (va_up_n (by omega)).trans hw.h2
  · exact (va_up_n (by omega)).trans hw.h3
  · exact (va_up_n (by omega)).trans hw.h4
  · exact (va_up_n (by omega)).trans hw.h5
  · exact (va_up_n (by omega)).trans hw.h6
  · exact (va_up_n (by omega)).trans hw.h7
  · exact (va_up_n (by omega)).trans hw.h8
  · exact (va_up_n (by omega)).trans hw.h9
  · exact fun j hj => (va_up_n (by omega)).trans (hw.pl j hj)
  · exact fun j hj => (va_up_n (by omega)).trans (hw.ct j hj)
  · exact fun j hj => (va_up_n (by omega)).trans (hw.kb j hj)
  · exact fun j hj => (va_up_n (by omega)).trans (hw.nm j hj)
  · exact fun j hj => (va_up_n (by omega)).trans (hw.lw j hj)
  · exact fun j hj => (va_up_n (by omega)).trans (hw.fr j hj)
theorem CW.set_md {G : eG} {ad : Nat → Nat} {s : St} {z : Zc} {hm h : Nat → va_E} (hw : CW G ad s z hm h) (v : Nat)  : CW G ad (S_md s v) z hm (va_up h 0 (oC ad (S_md s v))) := by
  refine ⟨?_, ?_, ?_, ?_, ?_, ?_, ?_, ?_, ?_, ?_, ?_, ?_, ?_, ?_, ?_, ?_⟩
  · exact va_up_s
  · exact (va_up_n (by omega)).trans hw.h1
  · exact (va_up_n (by omega)).trans hw.h2
  · exact (va_up_n (by omega)).trans hw.h3
  · exact (va_up_n (by omega)).trans hw.h4
  · exact (va_up_n (by omega)).trans hw.h5
  · exact (va_up_n (by omega)).trans hw.h6
  · exact (va_up_n (by omega)).trans hw.h7
  · exact (va_up_n (by omega)).trans hw.h8
  · exact (va_up_n (by omega)).trans hw.h9
  · exact fun j hj => (va_up_n (by omega)).trans (hw.pl j hj)
  · exact fun j hj => (va_up_n (by omega)).trans (hw.ct j hj)
  · exact fun j hj => (va_up_n (by omega)).trans (hw.kb j hj)
  · exact fun j hj => (va_up_n (by omega)).trans (hw.nm j hj)
  · exact fun j hj => (va_up_n (by omega)).trans (hw.lw j hj)
  · exact fun j hj => (va_up_n (by omega)).trans (hw.fr j hj)
theorem CW.set_bad {G : eG} {ad : Nat → Nat} {s : St} {z : Zc} {hm h : Nat → va_E} (hw : CW G ad s z hm h) (k : Nat) (b : Bool)  : CW G ad (S_bad s (va_up (s_bad s) k b)) z hm (va_up h 2 (.inl (G.2.2 2, 400, .inl (upd (fun i => b2i (s_bad s i)) k (b2i b))))) := by
  refine ⟨?_, ?_, ?_, ?_, ?_, ?_, ?_, ?_, ?_, ?_, ?_, ?_, ?_, ?_, ?_, ?_⟩
  · exact (va_up_n (by omega)).trans hw.h0
  · exact (va_up_n (by omega)).trans hw.h1
  · exact va_up_s.trans (by congr 4; funext i; simp only [upd, va_up, s_lost, s_lane, s_w, s_h, s_ct, s_bad, s_cn, s_ca, s_cb, s_cr, s_co, s_nm, s_li, s_lA, s_lB, s_lF, s_lc, s_ln, s_gc, s_gr, s_sn, s_cs, s_cc, s_md, S_lost, S_lane, S_w, S_h, S_ct, S_bad, S_cn, S_ca, S_cb, S_cr, S_co, S_nm, S_li, S_lA, S_lB, S_lF, S_lc, S_ln, S_gc, S_gr, S_sn, S_cs, S_cc, S_md, c_pp, c_sr, c_sl, c_sf, c_sq, c_sp, c_bi, c_ba, c_bb, c_bf, C_pp, C_sr, C_sl, C_sf, C_sq, C_sp, C_bi, C_ba, C_bb, C_bf, m_pm, m_pp, m_mo, m_bA, m_bB, m_hh, m_jA, m_jB, m_jF, M_pm, M_pp, M_mo, M_bA, M_bB, M_hh, M_jA, M_jB, M_jF]; split <;> rfl)
  · exact (va_up_n (by omega)).trans hw.h3
  · exact (va_up_n (by omega)).trans hw.h4
  · exact (va_up_n (by omega)).trans hw.h5
  · exact (va_up_n (by omega)).trans hw.h6
  · exact (va_up_n (by omega)).trans hw.h7
  · exact (va_up_n (by omega)).trans hw.h8
  · exact (va_up_n (by omega)).trans hw.h9
  · exact fun j hj => (va_up_n (by omega)).trans (hw.pl j hj)
  · exact fun j hj => (va_up_n (by omega)).trans (hw.ct j hj)
  · exact fun j hj => (va_up_n (by omega)).trans (hw.kb j hj)
  · exact fun j hj => (va_up_n (by omega)).trans (hw.nm j hj)
  · exact fun j hj => (va_up_n (by omega)).trans (hw.lw j hj)
  · exact fun j hj => (va_up_n (by omega)).trans (hw.fr j hj)
theorem CW.set_ln {G : eG} {ad : Nat → Nat} {s : St} {z : Zc} {hm h : Nat → va_E} (hw : CW G ad s z hm h) (k : Nat) (v : Int32)  : CW G ad (S_ln s (upd (s_ln s) k v)) z hm (va_up h 4 (.inl (G.2.2 0, 12, .inl (upd (s_ln s) k v)))) := by
  refine ⟨?_, ?_, ?_, ?_, ?_, ?_, ?_, ?_, ?_, ?_, ?_, ?_, ?_, ?_, ?_, ?_⟩
  · exact (va_up_n (by omega)).trans hw.h0
  · exact (va_up_n (by omega)).trans hw.h1
  · exact (va_up_n (by omega)).trans hw.h2
  · exact (va_up_n (by omega)).trans hw.h3
  · exact va_up_s
  · exact (va_up_n (by omega)).trans hw.h5
  · exact (va_up_n (by omega)).trans hw.h6
  · exact (va_up_n (by omega)).trans hw.h7
  · exact (va_up_n (by omega)).trans hw.h8
  · exact (va_up_n (by omega)).trans hw.h9
  · exact fun j hj => (va_up_n (by omega)).trans (hw.pl j hj)
  · exact fun j hj => (va_up_n (by omega)).trans (hw.ct j hj)
  · exact fun j hj => (va_up_n (by omega)).trans (hw.kb j hj)
  · exact fun j hj => (va_up_n (by omega)).trans (hw.nm j hj)
  · exact fun j hj => (va_up_n (by omega)).trans (hw.lw j hj)
  · exact fun j hj => (va_up_n (by omega)).trans (hw.fr j hj)
theorem CW.set_gr {G : eG} {ad : Nat → Nat} {s : St} {z : Zc} {hm h : Nat → va_E} (hw : CW G ad s z hm h) (k : Nat) (v : Int64)  : CW G ad (S_gr s (vp_updL (s_gr s) k v)) z hm (va_up h 5 (.inl (G.2.2 1, 60, .inr (.inl (vp_updL (s_gr s) k v))))) := by
  refine ⟨?_, ?_, ?_, ?_, ?_, ?_, ?_, ?_, ?_, ?_, ?_, ?_, ?_, ?_, ?_, ?_⟩
  · exact (va_up_n (by omega)).trans hw.h0
  · exact (va_up_n (by omega)).trans hw.h1
  · exact (va_up_n (by omega)).trans hw.h2
  · exact (va_up_n (by omega)).trans hw.h3
  · exact (va_up_n (by omega)).trans hw.h4
  · exact va_up_s
  · exact (va_up_n (by omega)).trans hw.h6
  · exact (va_up_n (by omega)).trans hw.h7
  · exact (va_up_n (by omega)).trans hw.h8
  · exact (va_up_n (by omega)).trans hw.h9
  · exact fun j hj => (va_up_n (by omega)).trans (hw.pl j hj)
  · exact fun j hj => (va_up_n (by omega)).trans (hw.ct j hj)
  · exact fun j hj => (va_up_n (by omega)).trans (hw.kb j hj)
  · exact fun j hj => (va_up_n (by omega)).trans (hw.nm j hj)
  · exact fun j hj => (va_up_n (by omega)).trans (hw.lw j hj)
  · exact fun j hj => (va_up_n (by omega)).trans (hw.fr j hj)
theorem CW.set_cc {G : eG} {ad : Nat → Nat} {s : St} {z : Zc} {hm h : Nat → va_E} (hw : CW G ad s z hm h) (k : Nat) (v : Int32)  : CW G ad (S_cc s (upd (s_cc s) k v)) z hm (va_up h 6 (.inl (G.2.2 0, 6, .inl (upd (s_cc s) k v)))) := by
  refine ⟨?_, ?_, ?_, ?_, ?_, ?_, ?_, ?_, ?_, ?_, ?_, ?_, ?_, ?_, ?_, ?_⟩
  · exact (va_up_n (by omega)).trans hw.h0
  · exact (va_up_n (by omega)).trans hw.h1
  · exact (va_up_n (by omega)).trans hw.h2
  · exact (va_up_n (by omega)).trans hw.h3
  · exact (va_up_n (by omega)).trans hw.h4
  · exact (va_up_n (by omega)).trans hw.h5
  · exact va_up_s
  · exact (va_up_n (by omega)).trans hw.h7
  · exact (va_up_n (by omega)).trans hw.h8
  · exact (va_up_n (by omega)).trans hw.h9
  · exact fun j hj => (va_up_n (by omega)).trans (hw.pl j hj)
  · exact fun j hj => (va_up_n (by omega)).trans (hw.ct j hj)
  · exact fun j hj => (va_up_n (by omega)).trans (hw.kb j hj)
  · exact fun j hj => (va_up_n (by omega)).trans (hw.nm j hj)
  · exact fun j hj => (va_up_n (by omega)).trans (hw.lw j hj)
  · exact fun j hj => (va_up_n (by omega)).trans (hw.fr j hj)
theorem CW.set_pp {G : eG} {ad : Nat → Nat} {s : St} {z : Zc} {hm h : Nat → va_E} (hw : CW G ad s z hm h) (k : Nat) (v : Int32)  : CW G ad s (C_pp z (upd (c_pp z) k v)) hm (va_up h 7 (.inl (G.2.2 0, 20, .inl (upd (c_pp z) k v)))) := by
  refine ⟨?_, ?_, ?_, ?_, ?_, ?_, ?_, ?_, ?_, ?_, ?_, ?_, ?_, ?_, ?_, ?_⟩
  · exact (va_up_n (by omega)).trans hw.h0
  · exact (va_up_n (by omega)).trans hw.h1
  · exact (va_up_n (by omega)).trans hw.h2
  · exact (va_up_n (by omega)).trans hw.h3
  · exact (va_up_n (by omega)).trans hw.h4
  · exact (va_up_n (by omega)).trans hw.h5
  · exact (va_up_n (by omega)).trans hw.h6
  · exact va_up_s
  · exact (va_up_n (by omega)).trans hw.h8
  · exact (va_up_n (by omega)).trans hw.h9
  · exact fun j hj => (va_up_n (by omega)).trans (hw.pl j hj)
  · exact fun j hj => (va_up_n (by omega)).trans (hw.ct j hj)
  · exact fun j hj => (va_up_n (by omega)).trans (hw.kb j hj)
  · exact fun j hj => (va_up_n (by omega)).trans (hw.nm j hj)
  · exact fun j hj => (va_up_n (by omega)).trans (hw.lw j hj)
  · exact fun j hj => (va_up_n (by omega)).trans (hw.fr j hj)
theorem CW.set_h8 {G : eG} {ad : Nat → Nat} {s : St} {z : Zc} {hm h : Nat → va_E} (hw : CW G ad s z hm h) (a : Int32) (b c d e : Int64)  : CW G ad s (C_sp (C_sq (C_sf (C_sl (C_sr z a) b) c) d) e) hm (va_up h 8 (.inr (3, [.int a, .long b, .long c, .long d, .long e]))) := by
  refine ⟨?_, ?_, ?_, ?_, ?_, ?_, ?_, ?_, ?_, ?_, ?_, ?_, ?_, ?_, ?_, ?_⟩
  · exact (va_up_n (by omega)).trans hw.h0
  · exact (va_up_n (by omega)).trans hw.h1
  · exact (va_up_n (by omega)).trans hw.h2
  · exact (va_up_n (by omega)).trans hw.h3
  · exact (va_up_n (by omega)).trans hw.h4
  · exact (va_up_n (by omega)).trans hw.h5
  · exact (va_up_n (by omega)).trans hw.h6
  · exact (va_up_n (by omega)).trans hw.h7
  · exact va_up_s
  · exact (va_up_n (by omega)).trans hw.h9
  · exact fun j hj => (va_up_n (by omega)).trans (hw.pl j hj)
  · exact fun j hj => (va_up_n (by omega)).trans (hw.ct j hj)
  · exact fun j hj => (va_up_n (by omega)).trans (hw.kb j hj)
  · exact fun j hj => (va_up_n (by omega)).trans (hw.nm j hj)
  · exact fun j hj => (va_up_n (by omega)).trans (hw.lw j hj)
  · exact fun j hj => (va_up_n (by omega)).trans (hw.fr j hj)
theorem CW.set_h9 {G : eG} {ad : Nat → Nat} {s : St} {z : Zc} {hm h : Nat → va_E} (hw : CW G ad s z hm h) (b : Bool) (a1 a2 a3 : Int32)  : CW G ad s (C_bf (C_bb (C_ba (C_bi z b) a1) a2) a3) hm (va_up h 9 (.inr (1, [.int (b2i b), .int a1, .int a2, .int a3]))) := by
  refine ⟨?_, ?_, ?_, ?_, ?_, ?_, ?_, ?_, ?_, ?_, ?_, ?_, ?_, ?_, ?_, ?_⟩
  · exact (va_up_n (by omega)).trans hw.h0
  · exact (va_up_n (by omega)).trans hw.h1
  · exact (va_up_n (by omega)).trans hw.h2
  · exact (va_up_n (by omega)).trans hw.h3
  · exact (va_up_n (by omega)).trans hw.h4
  · exact (va_up_n (by omega)).trans hw.h5
  · exact (va_up_n (by omega)).trans hw.h6
  · exact (va_up_n (by omega)).trans hw.h7
  · exact (va_up_n (by omega)).trans hw.h8
  · exact va_up_s
  · exact fun j hj => (va_up_n (by omega)).trans (hw.pl j hj)
  · exact fun j hj => (va_up_n (by omega)).trans (hw.ct j hj)
  · exact fun j hj => (va_up_n (by omega)).trans (hw.kb j hj)
  · exact fun j hj => (va_up_n (by omega)).trans (hw.nm j hj)
  · exact fun j hj => (va_up_n (by omega)).trans (hw.lw j hj)
  · exact fun j hj => (va_up_n (by omega)).trans (hw.fr j hj)
theorem CW.set_lost {G : eG} {ad : Nat → Nat} {s : St} {z : Zc} {hm h : Nat → va_E} (hw : CW G ad s z hm h) (p : Nat) (b : Bool) (hp : p < 6) : CW G ad (S_lost s (va_up (s_lost s) p b)) z hm (va_up h (10 + 2 * p) (.inr (2, [.int (b2i b), .int (nI (s_lane s p)), .int (nI (s_w s p)), .int (nI (s_h s p)), .ref (ad (11 + 2 * p))]))) := by
  refine ⟨?_, ?_, ?_, ?_, ?_, ?_, ?_, ?_, ?_, ?_, ?_, ?_, ?_, ?_, ?_, ?_⟩
  · exact (va_up_n (by omega)).trans hw.h0
  · exact (va_up_n (by omega)).trans hw.h1
  · exact (va_up_n (by omega)).trans hw.h2
  · exact (va_up_n (by omega)).trans hw.h3
  · exact (va_up_n (by omega)).trans hw.h4
  · exact (va_up_n (by omega)).trans hw.h5
  · exact (va_up_n (by omega)).trans hw.h6
  · exact (va_up_n (by omega)).trans hw.h7
  · exact (va_up_n (by omega)).trans hw.h8
  · exact (va_up_n (by omega)).trans hw.h9
  · exact (by
    intro q hq
    by_cases e : q = p
    · subst e; rw [va_up_s]; simp [oP, va_up, s_lost, s_lane, s_w, s_h, s_ct, s_bad, s_cn, s_ca, s_cb, s_cr, s_co, s_nm, s_li, s_lA, s_lB, s_lF, s_lc, s_ln, s_gc, s_gr, s_sn, s_cs, s_cc, s_md, S_lost, S_lane, S_w, S_h, S_ct, S_bad, S_cn, S_ca, S_cb, S_cr, S_co, S_nm, S_li, S_lA, S_lB, S_lF, S_lc, S_ln, S_gc, S_gr, S_sn, S_cs, S_cc, S_md, c_pp, c_sr, c_sl, c_sf, c_sq, c_sp, c_bi, c_ba, c_bb, c_bf, C_pp, C_sr, C_sl, C_sf, C_sq, C_sp, C_bi, C_ba, C_bb, C_bf, m_pm, m_pp, m_mo, m_bA, m_bB, m_hh, m_jA, m_jB, m_jF, M_pm, M_pp, M_mo, M_bA, M_bB, M_hh, M_jA, M_jB, M_jF]
    · rw [va_up_n (by omega), hw.pl q hq]; simp [va_up, e, oP, oK, oL, s_lost, s_lane, s_w, s_h, s_ct, s_bad, s_cn, s_ca, s_cb, s_cr, s_co, s_nm, s_li, s_lA, s_lB, s_lF, s_lc, s_ln, s_gc, s_gr, s_sn, s_cs, s_cc, s_md, S_lost, S_lane, S_w, S_h, S_ct, S_bad, S_cn, S_ca, S_cb, S_cr, S_co, S_nm, S_li, S_lA, S_lB, S_lF, S_lc, S_ln, S_gc, S_gr, S_sn, S_cs, S_cc, S_md, c_pp, c_sr, c_sl, c_sf, c_sq, c_sp, c_bi, c_ba, c_bb, c_bf, C_pp, C_sr, C_sl, C_sf, C_sq, C_sp, C_bi, C_ba, C_bb, C_bf, m_pm, m_pp, m_mo, m_bA, m_bB, m_hh, m_jA, m_jB, m_jF, M_pm, M_pp, M_mo, M_bA, M_bB, M_hh, M_jA, M_jB, M_jF])
  · exact fun j hj => (va_up_n (by omega)).trans (hw.ct j hj)
  · exact fun j hj => (va_up_n (by omega)).trans (hw.kb j hj)
  · exact fun j hj => (va_up_n (by omega)).trans (hw.nm j hj)
  · exact fun j hj => (va_up_n (by omega)).trans (hw.lw j hj)
  · exact fun j hj => (va_up_n (by omega)).trans (hw.fr j hj)
theorem CW.set_pl {G : eG} {ad : Nat → Nat} {s : St} {z : Zc} {hm h : Nat → va_E} (hw : CW G ad s z hm h) (p : Nat) (b : Bool) (l w0 h0 : Nat) (hp : p < 6) : CW G ad (S_h (S_w (S_lane (S_lost s (va_up (s_lost s) p b)) (va_up (s_lane s) p l)) (va_up (s_w s) p w0)) (va_up (s_h s) p h0)) z hm (va_up h (10 + 2 * p) (.inr (2, [.int (b2i b), .int (nI l), .int (nI w0), .int (nI h0), .ref (ad (11 + 2 * p))]))) := by
  refine ⟨?_, ?_, ?_, ?_, ?_, ?_, ?_, ?_, ?_, ?_, ?_, ?_, ?_, ?_, ?_, ?_⟩
  · exact (va_up_n (by omega)).trans hw.h0
  · exact (va_up_n (by omega)).trans hw.h1
  · exact (va_up_n (by omega)).trans hw.h2
  · exact (va_up_n (by omega)).trans hw.h3
  · exact (va_up_n (by omega)).trans hw.h4
  · exact (va_up_n (by omega)).trans hw.h5
  · exact (va_up_n (by omega)).trans hw.h6
  · exact (va_up_n (by omega)).trans hw.h7
  · exact (va_up_n (by omega)).trans hw.h8
  · exact (va_up_n (by omega)).trans hw.h9
  · exact (by
    intro q hq
    by_cases e : q = p
    · subst e; rw [va_up_s]; simp [oP, va_up, s_lost, s_lane, s_w, s_h, s_ct, s_bad, s_cn, s_ca, s_cb, s_cr, s_co, s_nm, s_li, s_lA, s_lB, s_lF, s_lc, s_ln, s_gc, s_gr, s_sn, s_cs, s_cc, s_md, S_lost, S_lane, S_w, S_h, S_ct, S_bad, S_cn, S_ca, S_cb, S_cr, S_co, S_nm, S_li, S_lA, S_lB, S_lF, S_lc, S_ln, S_gc, S_gr, S_sn, S_cs, S_cc, S_md, c_pp, c_sr, c_sl, c_sf, c_sq, c_sp, c_bi, c_ba, c_bb, c_bf, C_pp, C_sr, C_sl, C_sf, C_sq, C_sp, C_bi, C_ba, C_bb, C_bf, m_pm, m_pp, m_mo, m_bA, m_bB, m_hh, m_jA, m_jB, m_jF, M_pm, M_pp, M_mo, M_bA, M_bB, M_hh, M_jA, M_jB, M_jF]
    · rw [va_up_n (by omega), hw.pl q hq]; simp [va_up, e, oP, oK, oL, s_lost, s_lane, s_w, s_h, s_ct, s_bad, s_cn, s_ca, s_cb, s_cr, s_co, s_nm, s_li, s_lA, s_lB, s_lF, s_lc, s_ln, s_gc, s_gr, s_sn, s_cs, s_cc, s_md, S_lost, S_lane, S_w, S_h, S_ct, S_bad, S_cn, S_ca, S_cb, S_cr, S_co, S_nm, S_li, S_lA, S_lB, S_lF, S_lc, S_ln, S_gc, S_gr, S_sn, S_cs, S_cc, S_md, c_pp, c_sr, c_sl, c_sf, c_sq, c_sp, c_bi, c_ba, c_bb, c_bf, C_pp, C_sr, C_sl, C_sf, C_sq, C_sp, C_bi, C_ba, C_bb, C_bf, m_pm, m_pp, m_mo, m_bA, m_bB, m_hh, m_jA, m_jB, m_jF, M_pm, M_pp, M_mo, M_bA, M_bB, M_hh, M_jA, M_jB, M_jF])
  · exact fun j hj => (va_up_n (by omega)).trans (hw.ct j hj)
  · exact fun j hj => (va_up_n (by omega)).trans (hw.kb j hj)
  · exact fun j hj => (va_up_n (by omega)).trans (hw.nm j hj)
  · exact fun j hj => (va_up_n (by omega)).trans (hw.lw j hj)
  · exact fun j hj => (va_up_n (by omega)).trans (hw.fr j hj)
theorem CW.set_ct {G : eG} {ad : Nat → Nat} {s : St} {z : Zc} {hm h : Nat → va_E} (hw : CW G ad s z hm h) (p : Nat) (f : Nat → Int32) (hp : p < 6) : CW G ad (S_ct s (va_up (s_ct s) p f)) z hm (va_up h (11 + 2 * p) (.inl (G.2.2 0, 400, .inl f))) := by
  refine ⟨?_, ?_, ?_, ?_, ?_, ?_, ?_, ?_, ?_, ?_, ?_, ?_, ?_, ?_, ?_, ?_⟩
  · exact (va_up_n (by omega)).trans hw.h0
  · exact (va_up_n (by omega)).trans hw.h1
  · exact (va_up_n (by omega)).trans hw.h2
  · exact (va_up_n (by omega)).trans hw.h3
  · exact (va_up_n (by omega)).trans hw.h4
  · exact (va_up_n (by omega)).trans hw.h5
  · exact (va_up_n (by omega)).trans hw.h6
  · exact (va_up_n (by omega)).trans hw.h7
  · exact (va_up_n (by omega)).trans hw.h8
  · exact (va_up_n (by omega)).trans hw.h9
  · exact fun j hj => (va_up_n (by omega)).trans (hw.pl j hj)
  · exact (by
    intro q hq
    by_cases e : q = p
    · subst e; rw [va_up_s]; simp [va_up, s_lost, s_lane, s_w, s_h, s_ct, s_bad, s_cn, s_ca, s_cb, s_cr, s_co, s_nm, s_li, s_lA, s_lB, s_lF, s_lc, s_ln, s_gc, s_gr, s_sn, s_cs, s_cc, s_md, S_lost, S_lane, S_w, S_h, S_ct, S_bad, S_cn, S_ca, S_cb, S_cr, S_co, S_nm, S_li, S_lA, S_lB, S_lF, S_lc, S_ln, S_gc, S_gr, S_sn, S_cs, S_cc, S_md, c_pp, c_sr, c_sl, c_sf, c_sq, c_sp, c_bi, c_ba, c_bb, c_bf, C_pp, C_sr, C_sl, C_sf, C_sq, C_sp, C_bi, C_ba, C_bb, C_bf, m_pm, m_pp, m_mo, m_bA, m_bB, m_hh, m_jA, m_jB, m_jF, M_pm, M_pp, M_mo, M_bA, M_bB, M_hh, M_jA, M_jB, M_jF]
    · rw [va_up_n (by omega), hw.ct q hq]; simp [va_up, e, oP, oK, oL, s_lost, s_lane, s_w, s_h, s_ct, s_bad, s_cn, s_ca, s_cb, s_cr, s_co, s_nm, s_li, s_lA, s_lB, s_lF, s_lc, s_ln, s_gc, s_gr, s_sn, s_cs, s_cc, s_md, S_lost, S_lane, S_w, S_h, S_ct, S_bad, S_cn, S_ca, S_cb, S_cr, S_co, S_nm, S_li, S_lA, S_lB, S_lF, S_lc, S_ln, S_gc, S_gr, S_sn, S_cs, S_cc, S_md, c_pp, c_sr, c_sl, c_sf, c_sq, c_sp, c_bi, c_ba, c_bb, c_bf, C_pp, C_sr, C_sl, C_sf, C_sq, C_sp, C_bi, C_ba, C_bb, C_bf, m_pm, m_pp, m_mo, m_bA, m_bB, m_hh, m_jA, m_jB, m_jF, M_pm, M_pp, M_mo, M_bA, M_bB, M_hh, M_jA, M_jB, M_jF])
  · exact fun j hj => (va_up_n (by omega)).trans (hw.kb j hj)
  · exact fun j hj => (va_up_n (by omega)).trans (hw.nm j hj)
  · exact fun j hj => (va_up_n (by omega)).trans (hw.lw j hj)
  · exact fun j hj => (va_up_n (by omega)).trans (hw.fr j hj)
theorem CW.set_kb {G : eG} {ad : Nat → Nat} {s : St} {z : Zc} {hm h : Nat → va_E} (hw : CW G ad s z hm h) (p : Nat) (a b r k : Nat) (hp : p < 4) : CW G ad (S_co (S_cr (S_cb (S_ca s (va_up (s_ca s) p a)) (va_up (s_cb s) p b)) (va_up (s_cr s) p r)) (va_up (s_co s) p k)) z hm (va_up h (22 + 3 * p) (.inr (0, [.int (nI a), .int (nI b), .int (nI r), .int (nI k), .ref (ad (23 + 3 * p)), .ref (ad (24 + 3 * p))]))) := by
  refine ⟨?_, ?_, ?_, ?_, ?_, ?_, ?_, ?_, ?_, ?_, ?_, ?_, ?_, ?_, ?_, ?_⟩
  · exact (va_up_n (by omega)).trans hw.h0
  · exact (va_up_n (by omega)).trans hw.h1
  · exact (va_up_n (by omega)).trans hw.h2
  · exact (va_up_n (by omega)).trans hw.h3
  · exact (va_up_n (by omega)).trans hw.h4
  · exact (va_up_n (by omega)).trans hw.h5
  · exact (va_up_n (by omega)).trans hw.h6
  · exact (va_up_n (by omega)).trans hw.h7
  · exact (va_up_n (by omega)).trans hw.h8
  · exact (va_up_n (by omega)).trans hw.h9
  · exact fun j hj => (va_up_n (by omega)).trans (hw.pl j hj)
  · exact fun j hj => (va_up_n (by omega)).trans (hw.ct j hj)
  · exact (by
    intro q hq
    by_cases e : q = p
    · subst e; rw [va_up_s]; simp [oK, va_up, s_lost, s_lane, s_w, s_h, s_ct, s_bad, s_cn, s_ca, s_cb, s_cr, s_co, s_nm, s_li, s_lA, s_lB, s_lF, s_lc, s_ln, s_gc, s_gr, s_sn, s_cs, s_cc, s_md, S_lost, S_lane, S_w, S_h, S_ct, S_bad, S_cn, S_ca, S_cb, S_cr, S_co, S_nm, S_li, S_lA, S_lB, S_lF, S_lc, S_ln, S_gc, S_gr, S_sn, S_cs, S_cc, S_md, c_pp, c_sr, c_sl, c_sf, c_sq, c_sp, c_bi, c_ba, c_bb, c_bf, C_pp, C_sr, C_sl, C_sf, C_sq, C_sp, C_bi, C_ba, C_bb, C_bf, m_pm, m_pp, m_mo, m_bA, m_bB, m_hh, m_jA, m_jB, m_jF, M_pm, M_pp, M_mo, M_bA, M_bB, M_hh, M_jA, M_jB, M_jF]
    · rw [va_up_n (by omega), hw.kb q hq]; simp [va_up, e, oP, oK, oL, s_lost, s_lane, s_w, s_h, s_ct, s_bad, s_cn, s_ca, s_cb, s_cr, s_co, s_nm, s_li, s_lA, s_lB, s_lF, s_lc, s_ln, s_gc, s_gr, s_sn, s_cs, s_cc, s_md, S_lost, S_lane, S_w, S_h, S_ct, S_bad, S_cn, S_ca, S_cb, S_cr, S_co, S_nm, S_li, S_lA, S_lB, S_lF, S_lc, S_ln, S_gc, S_gr, S_sn, S_cs, S_cc, S_md, c_pp, c_sr, c_sl, c_sf, c_sq, c_sp, c_bi, c_ba, c_bb, c_bf, C_pp, C_sr, C_sl, C_sf, C_sq, C_sp, C_bi, C_ba, C_bb, C_bf, m_pm, m_pp, m_mo, m_bA, m_bB, m_hh, m_jA, m_jB, m_jF, M_pm, M_pp, M_mo, M_bA, M_bB, M_hh, M_jA, M_jB, M_jF])
  · exact fun j hj => (va_up_n (by omega)).trans (hw.nm j hj)
  · exact fun j hj => (va_up_n (by omega)).trans (hw.lw j hj)
  · exact fun j hj => (va_up_n (by omega)).trans (hw.fr j hj)
theorem CW.set_nm {G : eG} {ad : Nat → Nat} {s : St} {z : Zc} {hm h : Nat → va_E} (hw : CW G ad s z hm h) (p : Nat) (f : Nat → Nat) (hp : p < 4) : CW G ad (S_nm s (va_up (s_nm s) p f)) z hm (va_up h (23 + 3 * p) (.inl (G.2.2 1, 20, .inr (.inl (fun x => lN (f x)))))) := by
  refine ⟨?_, ?_, ?_, ?_, ?_, ?_, ?_, ?_, ?_, ?_, ?_, ?_, ?_, ?_, ?_, ?_⟩
  · exact (va_up_n (by omega)).trans hw.h0
  · exact (va_up_n (by omega)).trans hw.h1
  · exact (va_up_n (by omega)).trans hw.h2
  · exact (va_up_n (by omega)).trans hw.h3
  · exact (va_up_n (by omega)).trans hw.h4
  · exact (va_up_n (by omega)).trans hw.h5
  · exact (va_up_n (by omega)).trans hw.h6
  · exact (va_up_n (by omega)).trans hw.h7
  · exact (va_up_n (by omega)).trans hw.h8
  · exact (va_up_n (by omega)).trans hw.h9
  · exact fun j hj => (va_up_n (by omega)).trans (hw.pl j hj)
  · exact fun j hj => (va_up_n (by omega)).trans (hw.ct j hj)
  · exact fun j hj => (va_up_n (by omega)).trans (hw.kb j hj)
  · exact (by
    intro q hq
    by_cases e : q = p
    · subst e; rw [va_up_s]; simp [va_up, s_lost, s_lane, s_w, s_h, s_ct, s_bad, s_cn, s_ca, s_cb, s_cr, s_co, s_nm, s_li, s_lA, s_lB, s_lF, s_lc, s_ln, s_gc, s_gr, s_sn, s_cs, s_cc, s_md, S_lost, S_lane, S_w, S_h, S_ct, S_bad, S_cn, S_ca, S_cb, S_cr, S_co, S_nm, S_li, S_lA, S_lB, S_lF, S_lc, S_ln, S_gc, S_gr, S_sn, S_cs, S_cc, S_md, c_pp, c_sr, c_sl, c_sf, c_sq, c_sp, c_bi, c_ba, c_bb, c_bf, C_pp, C_sr, C_sl, C_sf, C_sq, C_sp, C_bi, C_ba, C_bb, C_bf, m_pm, m_pp, m_mo, m_bA, m_bB, m_hh, m_jA, m_jB, m_jF, M_pm, M_pp, M_mo, M_bA, M_bB, M_hh, M_jA, M_jB, M_jF]
    · rw [va_up_n (by omega), hw.nm q hq]; simp [va_up, e, oP, oK, oL, s_lost, s_lane, s_w, s_h, s_ct, s_bad, s_cn, s_ca, s_cb, s_cr, s_co, s_nm, s_li, s_lA, s_lB, s_lF, s_lc, s_ln, s_gc, s_gr, s_sn, s_cs, s_cc, s_md, S_lost, S_lane, S_w, S_h, S_ct, S_bad, S_cn, S_ca, S_cb, S_cr, S_co, S_nm, S_li, S_lA, S_lB, S_lF, S_lc, S_ln, S_gc, S_gr, S_sn, S_cs, S_cc, S_md, c_pp, c_sr, c_sl, c_sf, c_sq, c_sp, c_bi, c_ba, c_bb, c_bf, C_pp, C_sr, C_sl, C_sf, C_sq, C_sp, C_bi, C_ba, C_bb, C_bf, m_pm, m_pp, m_mo, m_bA, m_bB, m_hh, m_jA, m_jB, m_jF, M_pm, M_pp, M_mo, M_bA, M_bB, M_hh, M_jA, M_jB, M_jF])
  · exact fun j hj => (va_up_n (by omega)).trans (hw.lw j hj)
  · exact fun j hj => (va_up_n (by omega)).trans (hw.fr j hj)
theorem CW.set_lw {G : eG} {ad : Nat → Nat} {s : St} {z : Zc} {hm h : Nat → va_E} (hw : CW G ad s z hm h) (p : Nat) (b : Bool) (a1 a2 a3 : Int32) (hp : p < 4) : CW G ad (S_lF (S_lB (S_lA (S_li s (va_up (s_li s) p b)) (va_up (s_lA s) p a1)) (va_up (s_lB s) p a2)) (va_up (s_lF s) p a3)) z hm (va_up h (24 + 3 * p) (.inr (1, [.int (b2i b), .int a1, .int a2, .int a3]))) := by
  refine ⟨?_, ?_, ?_, ?_, ?_, ?_, ?_, ?_, ?_, ?_, ?_, ?_, ?_, ?_, ?_, ?_⟩
  · exact (va_up_n (by omega)).trans hw.h0
  · exact (va_up_n (by omega)).trans hw.h1
  · exact (va_up_n (by omega)).trans hw.h2
  · exact (va_up_n (by omega)).trans hw.h3
  · exact (va_up_n (by omega)).trans hw.h4
  · exact (va_up_n (by omega)).trans hw.h5
  · exact (va_up_n (by omega)).trans hw.h6
  · exact (va_up_n (by omega)).trans hw.h7
  · exact (va_up_n (by omega)).trans hw.h8
  · exact (va_up_n (by omega)).trans hw.h9
  · exact fun j hj => (va_up_n (by omega)).trans (hw.pl j hj)
  · exact fun j hj => (va_up_n (by omega)).trans (hw.ct j hj)
  · exact fun j hj => (va_up_n (by omega)).trans (hw.kb j hj)
  · exact fun j hj => (va_up_n (by omega)).trans (hw.nm j hj)
  · exact (by
    intro q hq
    by_cases e : q = p
    · subst e; rw [va_up_s]; simp [oL, va_up, s_lost, s_lane, s_w, s_h, s_ct, s_bad, s_cn, s_ca, s_cb, s_cr, s_co, s_nm, s_li, s_lA, s_lB, s_lF, s_lc, s_ln, s_gc, s_gr, s_sn, s_cs, s_cc, s_md, S_lost, S_lane, S_w, S_h, S_ct, S_bad, S_cn, S_ca, S_cb, S_cr, S_co, S_nm, S_li, S_lA, S_lB, S_lF, S_lc, S_ln, S_gc, S_gr, S_sn, S_cs, S_cc, S_md, c_pp, c_sr, c_sl, c_sf, c_sq, c_sp, c_bi, c_ba, c_bb, c_bf, C_pp, C_sr, C_sl, C_sf, C_sq, C_sp, C_bi, C_ba, C_bb, C_bf, m_pm, m_pp, m_mo, m_bA, m_bB, m_hh, m_jA, m_jB, m_jF, M_pm, M_pp, M_mo, M_bA, M_bB, M_hh, M_jA, M_jB, M_jF]
    · rw [va_up_n (by omega), hw.lw q hq]; simp [va_up, e, oP, oK, oL, s_lost, s_lane, s_w, s_h, s_ct, s_bad, s_cn, s_ca, s_cb, s_cr, s_co, s_nm, s_li, s_lA, s_lB, s_lF, s_lc, s_ln, s_gc, s_gr, s_sn, s_cs, s_cc, s_md, S_lost, S_lane, S_w, S_h, S_ct, S_bad, S_cn, S_ca, S_cb, S_cr, S_co, S_nm, S_li, S_lA, S_lB, S_lF, S_lc, S_ln, S_gc, S_gr, S_sn, S_cs, S_cc, S_md, c_pp, c_sr, c_sl, c_sf, c_sq, c_sp, c_bi, c_ba, c_bb, c_bf, C_pp, C_sr, C_sl, C_sf, C_sq, C_sp, C_bi, C_ba, C_bb, C_bf, m_pm, m_pp, m_mo, m_bA, m_bB, m_hh, m_jA, m_jB, m_jF, M_pm, M_pp, M_mo, M_bA, M_bB, M_hh, M_jA, M_jB, M_jF])
  · exact fun j hj => (va_up_n (by omega)).trans (hw.fr j hj)
def oM (ad : Nat → Nat) (s : St) (z : Zm) : va_E := .inr (5, [.ref (ad 35), .ref (ad 36), .ref (ad 37), .ref (ad 38), .ref (ad 39), .ref (ad 40), .int (nI (s_cn s)), .ref (ad 41), .ref (ad 42), .ref (ad 43), .ref (ad 44), .ref (ad 45), .ref (ad 46), .ref (ad 47), .ref (ad 48), .ref (ad 49), .int (nI (s_lc s)), .ref (ad 50), .int (nI (s_md s)), .int (nI (s_gc s)), .ref (ad 51), .int (s_sn s), .int (s_cs s), .ref (ad 52), .int (m_pm z), .ref (ad 53), .int (m_mo z), .long (m_bA z), .long (m_bB z), .long (m_hh z)])
def MW (G : eG) (ad : Nat → Nat) (s : St) (z : Zm) (hm h : Nat → va_E) : Prop :=
  (h 34 = oM ad s z) ∧
  (h 35 = .inl (G.2.2 2, 6, .inl (fun i => b2i (!(s_lost s i))))) ∧
  (h 36 = .inl (G.2.2 0, 6, .inl (fun i => nI (s_lane s i)))) ∧
  (h 37 = .inl (G.2.2 0, 6, .inl (fun i => nI (s_w s i)))) ∧
  (h 38 = .inl (G.2.2 0, 6, .inl (fun i => nI (s_h s i)))) ∧
  (h 39 = .inl (G.2.2 0, 2400, .inl (fun i => s_ct s (i / 400) (i % 400)))) ∧
  (h 40 = .inl (G.2.2 2, 400, .inl (fun i => b2i (s_bad s i)))) ∧
  (h 41 = .inl (G.2.2 0, 4, .inl (fun i => nI (s_ca s i)))) ∧
  (h 42 = .inl (G.2.2 0, 4, .inl (fun i => nI (s_cb s i)))) ∧
  (h 43 = .inl (G.2.2 0, 4, .inl (fun i => nI (s_cr s i)))) ∧
  (h 44 = .inl (G.2.2 0, 4, .inl (fun i => nI (s_co s i)))) ∧
  (h 45 = .inl (G.2.2 1, 80, .inr (.inl (fun i => lN (s_nm s (i / 20) (i % 20)))))) ∧
  (h 46 = .inl (G.2.2 2, 4, .inl (fun i => b2i (s_li s i)))) ∧
  (h 47 = .inl (G.2.2 0, 4, .inl (m_jA z))) ∧
  (h 48 = .inl (G.2.2 0, 4, .inl (m_jB z))) ∧
  (h 49 = .inl (G.2.2 0, 4, .inl (m_jF z))) ∧
  (h 50 = .inl (G.2.2 0, 12, .inl (s_ln s))) ∧
  (h 51 = .inl (G.2.2 1, 60, .inr (.inl (s_gr s)))) ∧
  (h 52 = .inl (G.2.2 0, 6, .inl (s_cc s))) ∧
  (h 53 = .inl (G.2.2 0, 20, .inl (m_pp z))) ∧
  (∀ c : Nat, c < 4 → s_li s c = true → m_jA z c = s_lA s c ∧ m_jB z c = s_lB s c ∧ m_jF z c = s_lF s c) ∧
  (∀ k : Nat, k < 34 → h k = hm k)
theorem MW.h34 {G : eG} {ad : Nat → Nat} {s : St} {z : Zm} {hm h : Nat → va_E} (hw : MW G ad s z hm h) : h 34 = oM ad s z := hw.1
theorem MW.h35 {G : eG} {ad : Nat → Nat} {s : St} {z : Zm} {hm h : Nat → va_E} (hw : MW G ad s z hm h) : h 35 = .inl (G.2.2 2, 6, .inl (fun i => b2i (!(s_lost s i)))) := hw.2.1
theorem MW.h36 {G : eG} {ad : Nat → Nat} {s : St} {z : Zm} {hm h : Nat → va_E} (hw : MW G ad s z hm h) : h 36 = .inl (G.2.2 0, 6, .inl (fun i => nI (s_lane s i))) := hw.2.2.1
theorem MW.h37 {G : eG} {ad : Nat → Nat} {s : St} {z : Zm} {hm h : Nat → va_E} (hw : MW G ad s z hm h) : h 37 = .inl (G.2.2 0, 6, .inl (fun i => nI (s_w s i))) := hw.2.2.2.1
theorem MW.h38 {G : eG} {ad : Nat → Nat} {s : St} {z : Zm} {hm h : Nat → va_E} (hw : MW G ad s z hm h) : h 38 = .inl (G.2.2 0, 6, .inl (fun i => nI (s_h s i))) := hw.2.2.2.2.1
theorem MW.h39 {G : eG} {ad : Nat → Nat} {s : St} {z : Zm} {hm h : Nat → va_E} (hw : MW G ad s z hm h) : h 39 = .inl (G.2.2 0, 2400, .inl (fun i => s_ct s (i / 400) (i % 400))) := hw.2.2.2.2.2.1
theorem MW.h40 {G : eG} {ad : Nat → Nat} {s : St} {z : Zm} {hm h : Nat → va_E} (hw : MW G ad s z hm h) : h 40 = .inl (G.2.2 2, 400, .inl (fun i => b2i (s_bad s i))) := hw.2.2.2.2.2.2.1
theorem MW.h41 {G : eG} {ad : Nat → Nat} {s : St} {z : Zm} {hm h : Nat → va_E} (hw : MW G ad s z hm h) : h 41 = .inl (G.2.2 0, 4, .inl (fun i => nI (s_ca s i))) := hw.2.2.2.2.2.2.2.1
theorem MW.h42 {G : eG} {ad : Nat → Nat} {s : St} {z : Zm} {hm h : Nat → va_E} (hw : MW G ad s z hm h) : h 42 = .inl (G.2.2 0, 4, .inl (fun i => nI (s_cb s i))) := hw.2.2.2.2.2.2.2.2.1
theorem MW.h43 {G : eG} {ad : Nat → Nat} {s : St} {z : Zm} {hm h : Nat → va_E} (hw : MW G ad s z hm h) : h 43 = .inl (G.2.2 0, 4, .inl (fun i => nI (s_cr s i))) := hw.2.2.2.2.2.2.2.2.2.1
theorem MW.h44 {G : eG} {ad : Nat → Nat} {s : St} {z : Zm} {hm h : Nat → va_E} (hw : MW G ad s z hm h) : h 44 = .inl (G.2.2 0, 4, .inl (fun i => nI (s_co s i))) := hw.2.2.2.2.2.2.2.2.2.2.1
theorem MW.h45 {G : eG} {ad : Nat → Nat} {s : St} {z : Zm} {hm h : Nat → va_E} (hw : MW G ad s z hm h) : h 45 = .inl (G.2.2 1, 80, .inr (.inl (fun i => lN (s_nm s (i / 20) (i % 20))))) := hw.2.2.2.2.2.2.2.2.2.2.2.1
theorem MW.h46 {G : eG} {ad : Nat → Nat} {s : St} {z : Zm} {hm h : Nat → va_E} (hw : MW G ad s z hm h) : h 46 = .inl (G.2.2 2, 4, .inl (fun i => b2i (s_li s i))) := hw.2.2.2.2.2.2.2.2.2.2.2.2.1
theorem MW.h47 {G : eG} {ad : Nat → Nat} {s : St} {z : Zm} {hm h : Nat → va_E} (hw : MW G ad s z hm h) : h 47 = .inl (G.2.2 0, 4, .inl (m_jA z)) := hw.2.2.2.2.2.2.2.2.2.2.2.2.2.1
theorem MW.h48 {G : eG} {ad : Nat → Nat} {s : St} {z : Zm} {hm h : Nat → va_E} (hw : MW G ad s z hm h) : h 48 = .inl (G.2.2 0, 4, .inl (m_jB z)) := hw.2.2.2.2.2.2.2.2.2.2.2.2.2.2.1
theorem MW.h49 {G : eG} {ad : Nat → Nat} {s : St} {z : Zm} {hm h : Nat → va_E} (hw : MW G ad s z hm h) : h 49 = .inl (G.2.2 0, 4, .inl (m_jF z)) := hw.2.2.2.2.2.2.2.2.2.2.2.2.2.2.2.1
theorem MW.h50 {G : eG} {ad : Nat → Nat} {s : St} {z : Zm} {hm h : Nat → va_E} (hw : MW G ad s z hm h) : h 50 = .inl (G.2.2 0, 12, .inl (s_ln s)) := hw.2.2.2.2.2.2.2.2.2.2.2.2.2.2.2.2.1
theorem MW.h51 {G : eG} {ad : Nat → Nat} {s : St} {z : Zm} {hm h : Nat → va_E} (hw : MW G ad s z hm h) : h 51 = .inl (G.2.2 1, 60, .inr (.inl (s_gr s))) := hw.2.2.2.2.2.2.2.2.2.2.2.2.2.2.2.2.2.1
theorem MW.h52 {G : eG} {ad : Nat → Nat} {s : St} {z : Zm} {hm h : Nat → va_E} (hw : MW G ad s z hm h) : h 52 = .inl (G.2.2 0, 6, .inl (s_cc s)) := hw.2.2.2.2.2.2.2.2.2.2.2.2.2.2.2.2.2.2.1
theorem MW.h53 {G : eG} {ad : Nat → Nat} {s : St} {z : Zm} {hm h : Nat → va_E} (hw : MW G ad s z hm h) : h 53 = .inl (G.2.2 0, 20, .inl (m_pp z)) := hw.2.2.2.2.2.2.2.2.2.2.2.2.2.2.2.2.2.2.2.1
theorem MW.jk {G : eG} {ad : Nat → Nat} {s : St} {z : Zm} {hm h : Nat → va_E} (hw : MW G ad s z hm h) : ∀ c : Nat, c < 4 → s_li s c = true → m_jA z c = s_lA s c ∧ m_jB z c = s_lB s c ∧ m_jF z c = s_lF s c := hw.2.2.2.2.2.2.2.2.2.2.2.2.2.2.2.2.2.2.2.2.1
theorem MW.fr {G : eG} {ad : Nat → Nat} {s : St} {z : Zm} {hm h : Nat → va_E} (hw : MW G ad s z hm h) : ∀ k : Nat, k < 34 → h k = hm k := hw.2.2.2.2.2.2.2.2.2.2.2.2.2.2.2.2.2.2.2.2.2
theorem MW.set_cn {G : eG} {ad : Nat → Nat} {s : St} {z : Zm} {hm h : Nat → va_E} (hw : MW G ad s z hm h) (v : Nat)  : MW G ad (S_cn s v) z hm (va_up h 34 (oM ad (S_cn s v) z)) := by
  refine ⟨?_, ?_, ?_, ?_, ?_, ?_, ?_, ?_, ?_, ?_, ?_, ?_, ?_, ?_, ?_, ?_, ?_, ?_, ?_, ?_, ?_, ?_⟩
  · exact va_up_s
  · exact (va_up_n (by omega)).trans hw.h35
  · exact (va_up_n (by omega)).trans hw.h36
  · exact (va_up_n (by omega)).trans hw.h37
  · exact (va_up_n (by omega)).trans hw.h38
  · exact (va_up_n (by omega)).trans hw.h39
  · exact (va_up_n (by omega)).trans hw.h40
  · exact (va_up_n (by omega)).trans hw.h41
  · exact (va_up_n (by omega)).trans hw.h42
  · exact (va_up_n (by omega)).trans hw.h43
  · exact (va_up_n (by omega)).trans hw.h44
  · exact (va_up_n (by omega)).trans hw.h45
  · exact (va_up_n (by omega)).trans hw.h46
  · exact (va_up_n (by omega)).trans hw.h47
  · exact (va_up_n (by omega)).trans hw.h48
  · exact (va_up_n (by omega)).trans hw.h49
  · exact (va_up_n (by omega)).trans hw.h50
  · exact (va_up_n (by omega)).trans hw.h51
  · exact (va_up_n (by omega)).trans hw.h52
  · exact (va_up_n (by omega)).trans hw.h53
  · exact hw.jk
  · exact fun j hj => (va_up_n (by omega)).trans (hw.fr j hj)
theorem MW.set_lc {G : eG} {ad : Nat → Nat} {s : St} {z : Zm} {hm h : Nat → va_E} (hw : MW G ad s z hm h) (v : Nat)  : MW G ad (S_lc s v) z hm (va_up h 34 (oM ad (S_lc s v) z)) := by
  refine ⟨?_, ?_, ?_, ?_, ?_, ?_, ?_, ?_, ?_, ?_, ?_, ?_, ?_, ?_, ?_, ?_, ?_, ?_, ?_, ?_, ?_, ?_⟩
  · exact va_up_s
  · exact (va_up_n (by omega)).trans hw.h35
  · exact (va_up_n (by omega)).trans hw.h36
  · exact (va_up_n (by omega)).trans hw.h37
  · exact (va_up_n (by omega)).trans hw.h38
  · exact (va_up_n (by omega)).trans hw.h39
  · exact (va_up_n (by omega)).trans hw.h40
  · exact (va_up_n (by omega)).trans hw.h41
  · exact (va_up_n (by omega)).trans hw.h42
  · exact (va_up_n (by omega)).trans hw.h43
  · exact (va_up_n (by omega)).trans hw.h44
  · exact (va_up_n (by omega)).trans hw.h45
  · exact (va_up_n (by omega)).trans hw.h46
  · exact (va_up_n (by omega)).trans hw.h47
  · exact (va_up_n (by omega)).trans hw.h48
  · exact (va_up_n (by omega)).trans hw.h49
  · exact (va_up_n (by omega)).trans hw.h50
  · exact (va_up_n (by omega)).trans hw.h51
  · exact (va_up_n (by omega)).trans hw.h52
  · exact (va_up_n (by omega)).trans hw.h53
  · exact hw.jk
  · exact fun j hj => (va_up_n (by omega)).trans (hw.fr j hj)
theorem MW.set_gc {G : eG} {ad : Nat → Nat} {s : St} {z : Zm} {hm h : Nat → va_E} (hw : MW G ad s z hm h) (v : Nat)  : MW G ad (S_gc s v) z hm (va_up h 34 (oM ad (S_gc s v) z)) := by
  refine ⟨?_, ?_, ?_, ?_, ?_, ?_, ?_, ?_, ?_, ?_, ?_, ?_, ?_, ?_, ?_, ?_, ?_, ?_, ?_, ?_, ?_, ?_⟩
  · exact va_up_s
  · exact (va_up_n (by omega)).trans hw.h35
  · exact (va_up_n (by omega)).trans hw.h36
  · exact (va_up_n (by omega)).trans hw.h37
  · exact (va_up_n (by omega)).trans hw.h38
  · exact (va_up_n (by omega)).trans hw.h39
  · exact (va_up_n (by omega)).trans hw.h40
  · exact (va_up_n (by omega)).trans hw.h41
  · exact (va_up_n (by omega)).trans hw.h42
  · exact (va_up_n (by omega)).trans hw.h43
  · exact (va_up_n (by omega)).trans hw.h44
  · exact (va_up_n (by omega)).trans hw.h45
  · exact (va_up_n (by omega)).trans hw.h46
  · exact (va_up_n (by omega)).trans hw.h47
  · exact (va_up_n (by omega)).trans hw.h48
  · exact (va_up_n (by omega)).trans hw.h49
  · exact (va_up_n (by omega)).trans hw.h50
  · exact (va_up_n (by omega)).trans hw.h51
  · exact (va_up_n (by omega)).trans hw.h52
  · exact (va_up_n (by omega)).trans hw.h53
  · exact hw.jk
  · exact fun j hj => (va_up_n (by omega)).trans (hw.fr j hj)
theorem MW.set_sn {G : eG} {ad : Nat → Nat} {s : St} {z : Zm} {hm h : Nat → va_E} (hw : MW G ad s z hm h) (v : Int32)  : MW G ad (S_sn s v) z hm (va_up h 34 (oM ad (S_sn s v) z)) := by
  refine ⟨?_, ?_, ?_, ?_, ?_, ?_, ?_, ?_, ?_, ?_, ?_, ?_, ?_, ?_, ?_, ?_, ?_, ?_, ?_, ?_, ?_, ?_⟩
  · exact va_up_s
  · exact (va_up_n (by omega)).trans hw.h35
  · exact (va_up_n (by omega)).trans hw.h36
  · exact (va_up_n (by omega)).trans hw.h37
  · exact (va_up_n (by omega)).trans hw.h38
  · exact (va_up_n (by omega)).trans hw.h39
  · exact (va_up_n (by omega)).trans hw.h40
  · exact (va_up_n (by omega)).trans hw.h41
  · exact (va_up_n (by omega)).trans hw.h42
  · exact (va_up_n (by omega)).trans hw.h43
  · exact (va_up_n (by omega)).trans hw.h44
  · exact (va_up_n (by omega)).trans hw.h45
  · exact (va_up_n (by omega)).trans hw.h46
  · exact (va_up_n (by omega)).trans hw.h47
  · exact (va_up_n (by omega)).trans hw.h48
  · exact (va_up_n (by omega)).trans hw.h49
  · exact (va_up_n (by omega)).trans hw.h50
  · exact (va_up_n (by omega)).trans hw.h51
  · exact (va_up_n (by omega)).trans hw.h52
  · exact (va_up_n (by omega)).trans hw.h53
  · exact hw.jk
  · exact fun j hj => (va_up_n (by omega)).trans (hw.fr j hj)
theorem MW.set_cs {G : eG} {ad : Nat → Nat} {s : St} {z : Zm} {hm h : Nat → va_E} (hw : MW G ad s z hm h) (v : Int32)  : MW G ad (S_cs s v) z hm (va_up h 34 (oM ad (S_cs s v) z)) := by
  refine ⟨?_, ?_, ?_, ?_, ?_, ?_, ?_, ?_, ?_, ?_, ?_, ?_, ?_, ?_, ?_, ?_, ?_, ?_, ?_, ?_, ?_, ?_⟩
  · exact va_up_s
  · exact (va_up_n (by omega)).trans hw.h35
  · exact (va_up_n (by omega)).trans hw.h36
  · exact (va_up_n (by omega)).trans hw.h37
  · exact (va_up_n (by omega)).trans hw.h38
  · exact (va_up_n (by omega)).trans hw.h39
  · exact (va_up_n (by omega)).trans hw.h40
  · exact (va_up_n (by omega)).trans hw.h41
  · exact (va_up_n (by omega)).trans hw.h42
  · exact (va_up_n (by omega)).trans hw.h43
  · exact (va_up_n (by omega)).trans hw.h44
  · exact (va_up_n (by omega)).trans hw.h45
  · exact (va_up_n (by omega)).trans hw.h46
  · exact (va_up_n (by omega)).trans hw.h47
  · exact (va_up_n (by omega)).trans hw.h48
  · exact (va_up_n (by omega)).trans hw.h49
  · exact (va_up_n (by omega)).trans hw.h50
  · exact (va_up_n (by omega)).trans hw.h51
  · exact (va_up_n (by omega)).trans hw.h52
  · exact (va_up_n (by omega)).trans hw.h53
  · exact hw.jk
  · exact fun j hj => (va_up_n (by omega)).trans (hw.fr j hj)
theorem MW.set_md {G : eG} {ad : Nat → Nat} {s : St} {z : Zm} {hm h : Nat → va_E} (hw : MW G ad s z hm h) (v : Nat)  : MW G ad (S_md s v) z hm (va_up h 34 (oM ad (S_md s v) z)) := by
  refine ⟨?_, ?_, ?_, ?_, ?_, ?_, ?_, ?_, ?_, ?_, ?_, ?_, ?_, ?_, ?_, ?_, ?_, ?_, ?_, ?_, ?_, ?_⟩
  · exact va_up_s
  · exact (va_up_n (by omega)).trans hw.h35
  · exact (va_up_n (by omega)).trans hw.h36
  · exact (va_up_n (by omega)).trans hw.h37
  · exact (va_up_n (by omega)).trans hw.h38
  · exact (va_up_n (by omega)).trans hw.h39
  · exact (va_up_n (by omega)).trans hw.h40
  · exact (va_up_n (by omega)).trans hw.h41
  · exact (va_up_n (by omega)).trans hw.h42
  · exact (va_up_n (by omega)).trans hw.h43
  · exact (va_up_n (by omega)).trans hw.h44
  · exact (va_up_n (by omega)).trans hw.h45
  · exact (va_up_n (by omega)).trans hw.h46
  · exact (va_up_n (by omega)).trans hw.h47
  · exact (va_up_n (by omega)).trans hw.h48
  · exact (va_up_n (by omega)).trans hw.h49
  · exact (va_up_n (by omega)).trans hw.h50
  · exact (va_up_n (by omega)).trans hw.h51
  · exact (va_up_n (by omega)).trans hw.h52
  · exact (va_up_n (by omega)).trans hw.h53
  · exact hw.jk
  · exact fun j hj => (va_up_n (by omega)).trans (hw.fr j hj)
theorem MW.set_pm {G : eG} {ad : Nat → Nat} {s : St} {z : Zm} {hm h : Nat → va_E} (hw : MW G ad s z hm h) (v : Int32)  : MW G ad s (M_pm z v) hm (va_up h 34 (oM ad s (M_pm z v))) := by
  refine ⟨?_, ?_, ?_, ?_, ?_, ?_, ?_, ?_, ?_, ?_, ?_, ?_, ?_, ?_, ?_, ?_, ?_, ?_, ?_, ?_, ?_, ?_⟩
  · exact va_up_s
  · exact (va_up_n (by omega)).trans hw.h35
  · exact (va_up_n (by omega)).trans hw.h36
  · exact (va_up_n (by omega)).trans hw.h37
  · exact (va_up_n (by omega)).trans hw.h38
  · exact (va_up_n (by omega)).trans hw.h39
  · exact (va_up_n (by omega)).trans hw.h40
  · exact (va_up_n (by omega)).trans hw.h41
  · exact (va_up_n (by omega)).trans hw.h42
  · exact (va_up_n (by omega)).trans hw.h43
  · exact (va_up_n (by omega)).trans hw.h44
  · exact (va_up_n (by omega)).trans hw.h45
  · exact (va_up_n (by omega)).trans hw.h46
  · exact (va_up_n (by omega)).trans hw.h47
  · exact (va_up_n (by omega)).trans hw.h48
  · exact (va_up_n (by omega)).trans hw.h49
  · exact (va_up_n (by omega)).trans hw.h50
  · exact (va_up_n (by omega)).trans hw.h51
  · exact (va_up_n (by omega)).trans hw.h52
  · exact (va_up_n (by omega)).trans hw.h53
  · exact hw.jk
  · exact fun j hj => (va_up_n (by omega)).trans (hw.fr j hj)
theorem MW.set_mo {G : eG} {ad : Nat → Nat} {s : St} {z : Zm} {hm h : Nat → va_E} (hw : MW G ad s z hm h) (v : Int32)  : MW G ad s (M_mo z v) hm (va_up h 34 (oM ad s (M_mo z v))) := by
  refine ⟨?_, ?_, ?_, ?_, ?_, ?_, ?_, ?_, ?_, ?_, ?_, ?_, ?_, ?_, ?_, ?_, ?_, ?_, ?_, ?_, ?_, ?_⟩
  · exact va_up_s
  · exact (va_up_n (by omega)).trans hw.h35
  · exact (va_up_n (by omega)).trans hw.h36
  · exact (va_up_n (by omega)).trans hw.h37
  · exact (va_up_n (by omega)).trans hw.h38
  · exact (va_up_n (by omega)).trans hw.h39
  · exact (va_up_n (by omega)).trans hw.h40
  · exact (va_up_n (by omega)).trans hw.h41
  · exact (va_up_n (by omega)).trans hw.h42
  · exact (va_up_n (by omega)).trans hw.h43
  · exact (va_up_n (by omega)).trans hw.h44
  · exact (va_up_n (by omega)).trans hw.h45
  · exact (va_up_n (by omega)).trans hw.h46
  · exact (va_up_n (by omega)).trans hw.h47
  · exact (va_up_n (by omega)).trans hw.h48
  · exact (va_up_n (by omega)).trans hw.h49
  · exact (va_up_n (by omega)).trans hw.h50
  · exact (va_up_n (by omega)).trans hw.h51
  · exact (va_up_n (by omega)).trans hw.h52
  · exact (va_up_n (by omega)).trans hw.h53
  · exact hw.jk
  · exact fun j hj => (va_up_n (by omega)).trans (hw.fr j hj)
theorem MW.set_bA {G : eG} {ad : Nat → Nat} {s : St} {z : Zm} {hm h : Nat → va_E} (hw : MW G ad s z hm h) (v : Int64)  : MW G ad s (M_bA z v) hm (va_up h 34 (oM ad s (M_bA z v))) := by
  refine ⟨?_, ?_, ?_, ?_, ?_, ?_, ?_, ?_, ?_, ?_, ?_, ?_, ?_, ?_, ?_, ?_, ?_, ?_, ?_, ?_, ?_, ?_⟩
  · exact va_up_s
  · exact (va_up_n (by omega)).trans hw.h35
  · exact (va_up_n (by omega)).trans hw.h36
  · exact (va_up_n (by omega)).trans hw.h37
  · exact (va_up_n (by omega)).trans hw.h38
  · exact (va_up_n (by omega)).trans hw.h39
  · exact (va_up_n (by omega)).trans hw.h40
  · exact (va_up_n (by omega)).trans hw.h41
  · exact (va_up_n (by omega)).trans hw.h42
  · exact (va_up_n (by omega)).trans hw.h43
  · exact (va_up_n (by omega)).trans hw.h44
  · exact (va_up_n (by omega)).trans hw.h45
  · exact (va_up_n (by omega)).trans hw.h46
  · exact (va_up_n (by omega)).trans hw.h47
  · exact (va_up_n (by omega)).trans hw.h48
  · exact (va_up_n (by omega)).trans hw.h49
  · exact (va_up_n (by omega)).trans hw.h50
  · exact (va_up_n (by omega)).trans hw.h51
  · exact (va_up_n (by omega)).trans hw.h52
  · exact (va_up_n (by omega)).trans hw.h53
  · exact hw.jk
  · exact fun j hj => (va_up_n (by omega)).trans (hw.fr j hj)
theorem MW.set_bB {G : eG} {ad : Nat → Nat} {s : St} {z : Zm} {hm h : Nat → va_E} (hw : MW G ad s z hm h) (v : Int64)  : MW G ad s (M_bB z v) hm (va_up h 34 (oM ad s (M_bB z v))) := by
  refine ⟨?_, ?_, ?_, ?_, ?_, ?_, ?_, ?_, ?_, ?_, ?_, ?_, ?_, ?_, ?_, ?_, ?_, ?_, ?_, ?_, ?_, ?_⟩
  · exact va_up_s
  · exact (va_up_n (by omega)).trans hw.h35
  · exact (va_up_n (by omega)).trans hw.h36
  · exact (va_up_n (by omega)).trans hw.h37
  · exact (va_up_n (by omega)).trans hw.h38
  · exact (va_up_n (by omega)).trans hw.h39
  · exact (va_up_n (by omega)).trans hw.h40
  · exact (va_up_n (by omega)).trans hw.h41
  · exact (va_up_n (by omega)).trans hw.h42
  · exact (va_up_n (by omega)).trans hw.h43
  · exact (va_up_n (by omega)).trans hw.h44
  · exact (va_up_n (by omega)).trans hw.h45
  · exact (va_up_n (by omega)).trans hw.h46
  · exact (va_up_n (by omega)).trans hw.h47
  · exact (va_up_n (by omega)).trans hw.h48
  · exact (va_up_n (by omega)).trans hw.h49
  · exact (va_up_n (by omega)).trans hw.h50
  · exact (va_up_n (by omega)).trans hw.h51
  · exact (va_up_n (by omega)).trans hw.h52
  · exact (va_up_n (by omega)).trans hw.h53
  · exact hw.jk
  · exact fun j hj => (va_up_n (by omega)).trans (hw.fr j hj)
theorem MW.set_hh {G : eG} {ad : Nat → Nat} {s : St} {z : Zm} {hm h : Nat → va_E} (hw : MW G ad s z hm h) (v : Int64)  : MW G ad s (M_hh z v) hm (va_up h 34 (oM ad s (M_hh z v))) := by
  refine ⟨?_, ?_, ?_, ?_, ?_, ?_, ?_, ?_, ?_, ?_, ?_, ?_, ?_, ?_, ?_, ?_, ?_, ?_, ?_, ?_, ?_, ?_⟩
  · exact va_up_s
  · exact (va_up_n (by omega)).trans hw.h35
  · exact (va_up_n (by omega)).trans hw.h36
  · exact (va_up_n (by omega)).trans hw.h37
  · exact (va_up_n (by omega)).trans hw.h38
  · exact (va_up_n (by omega)).trans hw.h39
  · exact (va_up_n (by omega)).trans hw.h40
  · exact (va_up_n (by omega)).trans hw.h41
  · exact (va_up_n (by omega)).trans hw.h42
  · exact (va_up_n (by omega)).trans hw.h43
  · exact (va_up_n (by omega)).trans hw.h44
  · exact (va_up_n (by omega)).trans hw.h45
  · exact (va_up_n (by omega)).trans hw.h46
  · exact (va_up_n (by omega)).trans hw.h47
  · exact (va_up_n (by omega)).trans hw.h48
  · exact (va_up_n (by omega)).trans hw.h49
  · exact (va_up_n (by omega)).trans hw.h50
  · exact (va_up_n (by omega)).trans hw.h51
  · exact (va_up_n (by omega)).trans hw.h52
  · exact (va_up_n (by omega)).trans hw.h53
  · exact hw.jk
  · exact fun j hj => (va_up_n (by omega)).trans (hw.fr j hj)
theorem MW.set_lost {G : eG} {ad : Nat → Nat} {s : St} {z : Zm} {hm h : Nat → va_E} (hw : MW G ad s z hm h) (k : Nat) (v : Bool)  : MW G ad (S_lost s (va_up (s_lost s) k v)) z hm (va_up h 35 (.inl (G.2.2 2, 6, .inl (upd (fun i => b2i (!(s_lost s i))) k (b2i (!v)))))) := by
  refine ⟨?_, ?_, ?_, ?_, ?_, ?_, ?_, ?_, ?_, ?_, ?_, ?_, ?_, ?_, ?_, ?_, ?_, ?_, ?_, ?_, ?_, ?_⟩
  · exact (va_up_n (by omega)).trans hw.h34
  · exact va_up_s.trans (by congr 4; funext i; simp only [upd, va_up, s_lost, s_lane, s_w, s_h, s_ct, s_bad, s_cn, s_ca, s_cb, s_cr, s_co, s_nm, s_li, s_lA, s_lB, s_lF, s_lc, s_ln, s_gc, s_gr, s_sn, s_cs, s_cc, s_md, S_lost, S_lane, S_w, S_h, S_ct, S_bad, S_cn, S_ca, S_cb, S_cr, S_co, S_nm, S_li, S_lA, S_lB, S_lF, S_lc, S_ln, S_gc, S_gr, S_sn, S_cs, S_cc, S_md, c_pp, c_sr, c_sl, c_sf, c_sq, c_sp, c_bi, c_ba, c_bb, c_bf, C_pp, C_sr, C_sl, C_sf, C_sq, C_sp, C_bi, C_ba, C_bb, C_bf, m_pm, m_pp, m_mo, m_bA, m_bB, m_hh, m_jA, m_jB, m_jF, M_pm, M_pp, M_mo, M_bA, M_bB, M_hh, M_jA, M_jB, M_jF]; split <;> rfl)
  · exact (va_up_n (by omega)).trans hw.h36
  · exact (va_up_n (by omega)).trans hw.h37
  · exact (va_up_n (by omega)).trans hw.h38
  · exact (va_up_n (by omega)).trans hw.h39
  · exact (va_up_n (by omega)).trans hw.h40
  · exact (va_up_n (by omega)).trans hw.h41
  · exact (va_up_n (by omega)).trans hw.h42
  · exact (va_up_n (by omega)).trans hw.h43
  · exact (va_up_n (by omega)).trans hw.h44
  · exact (va_up_n (by omega)).trans hw.h45
  · exact (va_up_n (by omega)).trans hw.h46
  · exact (va_up_n (by omega)).trans hw.h47
  · exact (va_up_n (by omega)).trans hw.h48
  · exact (va_up_n (by omega)).trans hw.h49
  · exact (va_up_n (by omega)).trans hw.h50
  · exact (va_up_n (by omega)).trans hw.h51
  · exact (va_up_n (by omega)).trans hw.h52
  · exact (va_up_n (by omega)).trans hw.h53
  · exact hw.jk
  · exact fun j hj => (va_up_n (by omega)).trans (hw.fr j hj)
theorem MW.set_lane {G : eG} {ad : Nat → Nat} {s : St} {z : Zm} {hm h : Nat → va_E} (hw : MW G ad s z hm h) (k : Nat) (v : Nat)  : MW G ad (S_lane s (va_up (s_lane s) k v)) z hm (va_up h 36 (.inl (G.2.2 0, 6, .inl (upd (fun i => nI (s_lane s i)) k (nI v))))) := by
  refine ⟨?_, ?_, ?_, ?_, ?_, ?_, ?_, ?_, ?_, ?_, ?_, ?_, ?_, ?_, ?_, ?_, ?_, ?_, ?_, ?_, ?_, ?_⟩
  · exact (va_up_n (by omega)).trans hw.h34
  · exact (va_up_n (by omega)).trans hw.h35
  · exact va_up_s.trans (by congr 4; funext i; simp only [upd, va_up, s_lost, s_lane, s_w, s_h, s_ct, s_bad, s_cn, s_ca, s_cb, s_cr, s_co, s_nm, s_li, s_lA, s_lB, s_lF, s_lc, s_ln, s_gc, s_gr, s_sn, s_cs, s_cc, s_md, S_lost, S_lane, S_w, S_h, S_ct, S_bad, S_cn, S_ca, S_cb, S_cr, S_co, S_nm, S_li, S_lA, S_lB, S_lF, S_lc, S_ln, S_gc, S_gr, S_sn, S_cs, S_cc, S_md, c_pp, c_sr, c_sl, c_sf, c_sq, c_sp, c_bi, c_ba, c_bb, c_bf, C_pp, C_sr, C_sl, C_sf, C_sq, C_sp, C_bi, C_ba, C_bb, C_bf, m_pm, m_pp, m_mo, m_bA, m_bB, m_hh, m_jA, m_jB, m_jF, M_pm, M_pp, M_mo, M_bA, M_bB, M_hh, M_jA, M_jB, M_jF]; split <;> rfl)
  · exact (va_up_n (by omega)).trans hw.h37
  · exact (va_up_n (by omega)).trans hw.h38
  · exact (va_up_n (by omega)).trans hw.h39
  · exact (va_up_n (by omega)).trans hw.h40
  · exact (va_up_n (by omega)).trans hw.h41
  · exact (va_up_n (by omega)).trans hw.h42
  · exact (va_up_n (by omega)).trans hw.h43
  · exact (va_up_n (by omega)).trans hw.h44
  · exact (va_up_n (by omega)).trans hw.h45
  · exact (va_up_n (by omega)).trans hw.h46
  · exact (va_up_n (by omega)).trans hw.h47
  · exact (va_up_n (by omega)).trans hw.h48
  · exact (va_up_n (by omega)).trans hw.h49
  · exact (va_up_n (by omega)).trans hw.h50
  · exact (va_up_n (by omega)).trans hw.h51
  · exact (va_up_n (by omega)).trans hw.h52
  · exact (va_up_n (by omega)).trans hw.h53
  · exact hw.jk
  · exact fun j hj => (va_up_n (by omega)).trans (hw.fr j hj)
theorem MW.set_w {G : eG} {ad : Nat → Nat} {s : St} {z : Zm} {hm h : Nat → va_E} (hw : MW G ad s z hm h) (k : Nat) (v : Nat)  : MW G ad (S_w s (va_up (s_w s) k v)) z hm (va_up h 37 (.inl (G.2.2 0, 6, .inl (upd (fun i => nI (s_w s i)) k (nI v))))) := by
  refine ⟨?_, ?_, ?_, ?_, ?_, ?_, ?_, ?_, ?_, ?_, ?_, ?_, ?_, ?_, ?_, ?_, ?_, ?_, ?_, ?_, ?_, ?_⟩
  · exact (va_up_n (by omega)).trans hw.h34
  · exact (va_up_n (by omega)).trans hw.h35
  · exact (va_up_n (by omega)).trans hw.h36
  · exact va_up_s.trans (by congr 4; funext i; simp only [upd, va_up, s_lost, s_lane, s_w, s_h, s_ct, s_bad, s_cn, s_ca, s_cb, s_cr, s_co, s_nm, s_li, s_lA, s_lB, s_lF, s_lc, s_ln, s_gc, s_gr, s_sn, s_cs, s_cc, s_md, S_lost, S_lane, S_w, S_h, S_ct, S_bad, S_cn, S_ca, S_cb, S_cr, S_co, S_nm, S_li, S_lA, S_lB, S_lF, S_lc, S_ln, S_gc, S_gr, S_sn, S_cs, S_cc, S_md, c_pp, c_sr, c_sl, c_sf, c_sq, c_sp, c_bi, c_ba, c_bb, c_bf, C_pp, C_sr, C_sl, C_sf, C_sq, C_sp, C_bi, C_ba, C_bb, C_bf, m_pm, m_pp, m_mo, m_bA, m_bB, m_hh, m_jA, m_jB, m_jF, M_pm, M_pp, M_mo, M_bA, M_bB, M_hh, M_jA, M_jB, M_jF]; split <;> rfl)
  · exact (va_up_n (by omega)).trans hw.h38
  · exact (va_up_n (by omega)).trans hw.h39
  · exact (va_up_n (by omega)).trans hw.h40
  · exact (va_up_n (by omega)).trans hw.h41
  · exact (va_up_n (by omega)).trans hw.h42
  · exact (va_up_n (by omega)).trans hw.h43
  · exact (va_up_n (by omega)).trans hw.h44
  · exact (va_up_n (by omega)).trans hw.h45
  · exact (va_up_n (by omega)).trans hw.h46
  · exact (va_up_n (by omega)).trans hw.h47
  · exact (va_up_n (by omega)).trans hw.h48
  · exact (va_up_n (by omega)).trans hw.h49
  · exact (va_up_n (by omega)).trans hw.h50
  · exact (va_up_n (by omega)).trans hw.h51
  · exact (va_up_n (by omega)).trans hw.h52
  · exact (va_up_n (by omega)).trans hw.h53
  · exact hw.jk
  · exact fun j hj => (va_up_n (by omega)).trans (hw.fr j hj)
theorem MW.set_h {G : eG} {ad : Nat → Nat} {s : St} {z : Zm} {hm h : Nat → va_E} (hw : MW G ad s z hm h) (k : Nat) (v : Nat)  : MW G ad (S_h s (va_up (s_h s) k v)) z hm (va_up h 38 (.inl (G.2.2 0, 6, .inl (upd (fun i => nI (s_h s i)) k (nI v))))) := by
  refine ⟨?_, ?_, ?_, ?_, ?_, ?_, ?_, ?_, ?_, ?_, ?_, ?_, ?_, ?_, ?_, ?_, ?_, ?_, ?_, ?_, ?_, ?_⟩
  · exact (va_up_n (by omega)).trans hw.h34
  · exact (va_up_n (by omega)).trans hw.h35
  · exact (va_up_n (by omega)).trans hw.h36
  · exact (va_up_n (by omega)).trans hw.h37
  · exact va_up_s.trans (by congr 4; funext i; simp only [upd, va_up, s_lost, s_lane, s_w, s_h, s_ct, s_bad, s_cn, s_ca, s_cb, s_cr, s_co, s_nm, s_li, s_lA, s_lB, s_lF, s_lc, s_ln, s_gc, s_gr, s_sn, s_cs, s_cc, s_md, S_lost, S_lane, S_w, S_h, S_ct, S_bad, S_cn, S_ca, S_cb, S_cr, S_co, S_nm, S_li, S_lA, S_lB, S_lF, S_lc, S_ln, S_gc, S_gr, S_sn, S_cs, S_cc, S_md, c_pp, c_sr, c_sl, c_sf, c_sq, c_sp, c_bi, c_ba, c_bb, c_bf, C_pp, C_sr, C_sl, C_sf, C_sq, C_sp, C_bi, C_ba, C_bb, C_bf, m_pm, m_pp, m_mo, m_bA, m_bB, m_hh, m_jA, m_jB, m_jF, M_pm, M_pp, M_mo, M_bA, M_bB, M_hh, M_jA, M_jB, M_jF]; split <;> rfl)
  · exact (va_up_n (by omega)).trans hw.h39
  · exact (va_up_n (by omega)).trans hw.h40
  · exact (va_up_n (by omega)).trans hw.h41
  · exact (va_up_n (by omega)).trans hw.h42
  · exact (va_up_n (by omega)).trans hw.h43
  · exact (va_up_n (by omega)).trans hw.h44
  · exact (va_up_n (by omega)).trans hw.h45
  · exact (va_up_n (by omega)).trans hw.h46
  · exact (va_up_n (by omega)).trans hw.h47
  · exact (va_up_n (by omega)).trans hw.h48
  · exact (va_up_n (by omega)).trans hw.h49
  · exact (va_up_n (by omega)).trans hw.h50
  · exact (va_up_n (by omega)).trans hw.h51
  · exact (va_up_n (by omega)).trans hw.h52
  · exact (va_up_n (by omega)).trans hw.h53
  · exact hw.jk
  · exact fun j hj => (va_up_n (by omega)).trans (hw.fr j hj)
theorem MW.set_bad {G : eG} {ad : Nat → Nat} {s : St} {z : Zm} {hm h : Nat → va_E} (hw : MW G ad s z hm h) (k : Nat) (v : Bool)  : MW G ad (S_bad s (va_up (s_bad s) k v)) z hm (va_up h 40 (.inl (G.2.2 2, 400, .inl (upd (fun i => b2i (s_bad s i)) k (b2i v))))) := by
  refine ⟨?_, ?_, ?_, ?_, ?_, ?_, ?_, ?_, ?_, ?_, ?_, ?_, ?_, ?_, ?_, ?_, ?_, ?_, ?_, ?_, ?_, ?_⟩
  · exact (va_up_n (by omega)).trans hw.h34
  · exact (va_up_n (by omega)).trans hw.h35
  · exact (va_up_n (by omega)).trans hw.h36
  · exact (va_up_n (by omega)).trans hw.h37
  · exact (va_up_n (by omega)).trans hw.h38
  · exact (va_up_n (by omega)).trans hw.h39
  · exact va_up_s.trans (by congr 4; funext i; simp only [upd, va_up, s_lost, s_lane, s_w, s_h, s_ct, s_bad, s_cn, s_ca, s_cb, s_cr, s_co, s_nm, s_li, s_lA, s_lB, s_lF, s_lc, s_ln, s_gc, s_gr, s_sn, s_cs, s_cc, s_md, S_lost, S_lane, S_w, S_h, S_ct, S_bad, S_cn, S_ca, S_cb, S_cr, S_co, S_nm, S_li, S_lA, S_lB, S_lF, S_lc, S_ln, S_gc, S_gr, S_sn, S_cs, S_cc, S_md, c_pp, c_sr, c_sl, c_sf, c_sq, c_sp, c_bi, c_ba, c_bb, c_bf, C_pp, C_sr, C_sl, C_sf, C_sq, C_sp, C_bi, C_ba, C_bb, C_bf, m_pm, m_pp, m_mo, m_bA, m_bB, m_hh, m_jA, m_jB, m_jF, M_pm, M_pp, M_mo, M_bA, M_bB, M_hh, M_jA, M_jB, M_jF]; split <;> rfl)
  · exact (va_up_n (by omega)).trans hw.h41
  · exact (va_up_n (by omega)).trans hw.h42
  · exact (va_up_n (by omega)).trans hw.h43
  · exact (va_up_n (by omega)).trans hw.h44
  · exact (va_up_n (by omega)).trans hw.h45
  · exact (va_up_n (by omega)).trans hw.h46
  · exact (va_up_n (by omega)).trans hw.h47
  · exact (va_up_n (by omega)).trans hw.h48
  · exact (va_up_n (by omega)).trans hw.h49
  · exact (va_up_n (by omega)).trans hw.h50
  · exact (va_up_n (by omega)).trans hw.h51
  · exact (va_up_n (by omega)).trans hw.h52
  · exact (va_up_n (by omega)).trans hw.h53
  · exact hw.jk
  · exact fun j hj => (va_up_n (by omega)).trans (hw.fr j hj)
theorem MW.set_ca {G : eG} {ad : Nat → Nat} {s : St} {z : Zm} {hm h : Nat → va_E} (hw : MW G ad s z hm h) (k : Nat) (v : Nat)  : MW G ad (S_ca s (va_up (s_ca s) k v)) z hm (va_up h 41 (.inl (G.2.2 0, 4, .inl (upd (fun i => nI (s_ca s i)) k (nI v))))) := by
  refine ⟨?_, ?_, ?_, ?_, ?_, ?_, ?_, ?_, ?_, ?_, ?_, ?_, ?_, ?_, ?_, ?_, ?_, ?_, ?_, ?_, ?_, ?_⟩
  · exact (va_up_n (by omega)).trans hw.h34
  · exact (va_up_n (by omega)).trans hw.h35
  · exact (va_up_n (by omega)).trans hw.h36
  · exact (va_up_n (by omega)).trans hw.h37
  · exact (va_up_n (by omega)).trans hw.h38
  · exact (va_up_n (by omega)).trans hw.h39
  · exact (va_up_n (by omega)).trans hw.h40
  · exact va_up_s.trans (by congr 4; funext i; simp only [upd, va_up, s_lost, s_lane, s_w, s_h, s_ct, s_bad, s_cn, s_ca, s_cb, s_cr, s_co, s_nm, s_li, s_lA, s_lB, s_lF, s_lc, s_ln, s_gc, s_gr, s_sn, s_cs, s_cc, s_md, S_lost, S_lane, S_w, S_h, S_ct, S_bad, S_cn, S_ca, S_cb, S_cr, S_co, S_nm, S_li, S_lA, S_lB, S_lF, S_lc, S_ln, S_gc, S_gr, S_sn, S_cs, S_cc, S_md, c_pp, c_sr, c_sl, c_sf, c_sq, c_sp, c_bi, c_ba, c_bb, c_bf, C_pp, C_sr, C_sl, C_sf, C_sq, C_sp, C_bi, C_ba, C_bb, C_bf, m_pm, m_pp, m_mo, m_bA, m_bB, m_hh, m_jA, m_jB, m_jF, M_pm, M_pp, M_mo, M_bA, M_bB, M_hh, M_jA, M_jB, M_jF]; split <;> rfl)
  · exact (va_up_n (by omega)).trans hw.h42
  · exact (va_up_n (by omega)).trans hw.h43
  · exact (va_up_n (by omega)).trans hw.h44
  · exact (va_up_n (by omega)).trans hw.h45
  · exact (va_up_n (by omega)).trans hw.h46
  · exact (va_up_n (by omega)).trans hw.h47
  · exact (va_up_n (by omega)).trans hw.h48
  · exact (va_up_n (by omega)).trans hw.h49
  · exact (va_up_n (by omega)).trans hw.h50
  · exact (va_up_n (by omega)).trans hw.h51
  · exact (va_up_n (by omega)).trans hw.h52
  · exact (va_up_n (by omega)).trans hw.h53
  · exact hw.jk
  · exact fun j hj => (va_up_n (by omega)).trans (hw.fr j hj)
theorem MW.set_cb {G : eG} {ad : Nat → Nat} {s : St} {z : Zm} {hm h : Nat → va_E} (hw : MW G ad s z hm h) (k : Nat) (v : Nat)  : MW G ad (S_cb s (va_up (s_cb s) k v)) z hm (va_up h 42 (.inl (G.2.2 0, 4, .inl (upd (fun i => nI (s_cb s i)) k (nI v))))) := by
  refine ⟨?_, ?_, ?_, ?_, ?_, ?_, ?_, ?_, ?_, ?_, ?_, ?_, ?_, ?_, ?_, ?_, ?_, ?_, ?_, ?_, ?_, ?_⟩
  · exact (va_up_n (by omega)).trans hw.h34
  · exact (va_up_n (by omega)).trans hw.h35
  · exact (va_up_n (by omega)).trans hw.h36
  · exact (va_up_n (by omega)).trans hw.h37
  · exact (va_up_n (by omega)).trans hw.h38
  · exact (va_up_n (by omega)).trans hw.h39
  · exact (va_up_n (by omega)).trans hw.h40
  · exact (va_up_n (by omega)).trans hw.h41
  · exact va_up_s.trans (by congr 4; funext i; simp only [upd, va_up, s_lost, s_lane, s_w, s_h, s_ct, s_bad, s_cn, s_ca, s_cb, s_cr, s_co, s_nm, s_li, s_lA, s_lB, s_lF, s_lc, s_ln, s_gc, s_gr, s_sn, s_cs, s_cc, s_md, S_lost, S_lane, S_w, S_h, S_ct, S_bad, S_cn, S_ca, S_cb, S_cr, S_co, S_nm, S_li, S_lA, S_lB, S_lF, S_lc, S_ln, S_gc, S_gr, S_sn, S_cs, S_cc, S_md, c_pp, c_sr, c_sl, c_sf, c_sq, c_sp, c_bi, c_ba, c_bb, c_bf, C_pp, C_sr, C_sl, C_sf, C_sq, C_sp, C_bi, C_ba, C_bb, C_bf, m_pm, m_pp, m_mo, m_bA, m_bB, m_hh, m_jA, m_jB, m_jF, M_pm, M_pp, M_mo, M_bA, M_bB, M_hh, M_jA, M_jB, M_jF]; split <;> rfl)
  · exact (va_up_n (by omega)).trans hw.h43
  · exact (va_up_n (by omega)).trans hw.h44
  · exact (va_up_n (by omega)).trans hw.h45
  · exact (va_up_n (by omega)).trans hw.h46
  · exact (va_up_n (by omega)).trans hw.h47
  · exact (va_up_n (by omega)).trans hw.h48
  · exact (va_up_n (by omega)).trans hw.h49
  · exact (va_up_n (by omega)).trans hw.h50
  · exact (va_up_n (by omega)).trans hw.h51
  · exact (va_up_n (by omega)).trans hw.h52
  · exact (va_up_n (by omega)).trans hw.h53
  · exact hw.jk
  · exact fun j hj => (va_up_n (by omega)).trans (hw.fr j hj)
theorem MW.set_cr {G : eG} {ad : Nat → Nat} {s : St} {z : Zm} {hm h : Nat → va_E} (hw : MW G ad s z hm h) (k : Nat) (v : Nat)  : MW G ad (S_cr s (va_up (s_cr s) k v)) z hm (va_up h 43 (.inl (G.2.2 0, 4, .inl (upd (fun i => nI (s_cr s i)) k (nI v))))) := by
  refine ⟨?_, ?_, ?_, ?_, ?_, ?_, ?_, ?_, ?_, ?_, ?_, ?_, ?_, ?_, ?_, ?_, ?_, ?_, ?_, ?_, ?_, ?_⟩
  · exact (va_up_n (by omega)).trans hw.h34
  · exact (va_up_n (by omega)).trans hw.h35
  · exact (va_up_n (by omega)).trans hw.h36
  · exact (va_up_n (by omega)).trans hw.h37
  · exact (va_up_n (by omega)).trans hw.h38
  · exact (va_up_n (by omega)).trans hw.h39
  · exact (va_up_n (by omega)).trans hw.h40
  · exact (va_up_n (by omega)).trans hw.h41
  · exact (va_up_n (by omega)).trans hw.h42
  · exact va_up_s.trans (by congr 4; funext i; simp only [upd, va_up, s_lost, s_lane, s_w, s_h, s_ct, s_bad, s_cn, s_ca, s_cb, s_cr, s_co, s_nm, s_li, s_lA, s_lB, s_lF, s_lc, s_ln, s_gc, s_gr, s_sn, s_cs, s_cc, s_md, S_lost, S_lane, S_w, S_h, S_ct, S_bad, S_cn, S_ca, S_cb, S_cr, S_co, S_nm, S_li, S_lA, S_lB, S_lF, S_lc, S_ln, S_gc, S_gr, S_sn, S_cs, S_cc, S_md, c_pp, c_sr, c_sl, c_sf, c_sq, c_sp, c_bi, c_ba, c_bb, c_bf, C_pp, C_sr, C_sl, C_sf, C_sq, C_sp, C_bi, C_ba, C_bb, C_bf, m_pm, m_pp, m_mo, m_bA, m_bB, m_hh, m_jA, m_jB, m_jF, M_pm, M_pp, M_mo, M_bA, M_bB, M_hh, M_jA, M_jB, M_jF]; split <;> rfl)
  · exact (va_up_n (by omega)).trans hw.h44
  · exact (va_up_n (by omega)).trans hw.h45
  · exact (va_up_n (by omega)).trans hw.h46
  · exact (va_up_n (by omega)).trans hw.h47
  · exact (va_up_n (by omega)).trans hw.h48
  · exact (va_up_n (by omega)).trans hw.h49
  · exact (va_up_n (by omega)).trans hw.h50
  · exact (va_up_n (by omega)).trans hw.h51
  · exact (va_up_n (by omega)).trans hw.h52
  · exact (va_up_n (by omega)).trans hw.h53
  · exact hw.jk
  · exact fun j hj => (va_up_n (by omega)).trans (hw.fr j hj)
theorem MW.set_co {G : eG} {ad : Nat → Nat} {s : St} {z : Zm} {hm h : Nat → va_E} (hw : MW G ad s z hm h) (k : Nat) (v : Nat)  : MW G ad (S_co s (va_up (s_co s) k v)) z hm (va_up h 44 (.inl (G.2.2 0, 4, .inl (upd (fun i => nI (s_co s i)) k (nI v))))) := by
  refine ⟨?_, ?_, ?_, ?_, ?_, ?_, ?_, ?_, ?_, ?_, ?_, ?_, ?_, ?_, ?_, ?_, ?_, ?_, ?_, ?_, ?_, ?_⟩
  · exact (va_up_n (by omega)).trans hw.h34
  · exact (va_up_n (by omega)).trans hw.h35
  · exact (va_up_n (by omega)).trans hw.h36
  · exact (va_up_n (by omega)).trans hw.h37
  · exact (va_up_n (by omega)).trans hw.h38
  · exact (va_up_n (by omega)).trans hw.h39
  · exact (va_up_n (by omega)).trans hw.h40
  · exact (va_up_n (by omega)).trans hw.h41
  · exact (va_up_n (by omega)).trans hw.h42
  · exact (va_up_n (by omega)).trans hw.h43
  · exact va_up_s.trans (by congr 4; funext i; simp only [upd, va_up, s_lost, s_lane, s_w, s_h, s_ct, s_bad, s_cn, s_ca, s_cb, s_cr, s_co, s_nm, s_li, s_lA, s_lB, s_lF, s_lc, s_ln, s_gc, s_gr, s_sn, s_cs, s_cc, s_md, S_lost, S_lane, S_w, S_h, S_ct, S_bad, S_cn, S_ca, S_cb, S_cr, S_co, S_nm, S_li, S_lA, S_lB, S_lF, S_lc, S_ln, S_gc, S_gr, S_sn, S_cs, S_cc, S_md, c_pp, c_sr, c_sl, c_sf, c_sq, c_sp, c_bi, c_ba, c_bb, c_bf, C_pp, C_sr, C_sl, C_sf, C_sq, C_sp, C_bi, C_ba, C_bb, C_bf, m_pm, m_pp, m_mo, m_bA, m_bB, m_hh, m_jA, m_jB, m_jF, M_pm, M_pp, M_mo, M_bA, M_bB, M_hh, M_jA, M_jB, M_jF]; split <;> rfl)
  · exact (va_up_n (by omega)).trans hw.h45
  · exact (va_up_n (by omega)).trans hw.h46
  · exact (va_up_n (by omega)).trans hw.h47
  · exact (va_up_n (by omega)).trans hw.h48
  · exact (va_up_n (by omega)).trans hw.h49
  · exact (va_up_n (by omega)).trans hw.h50
  · exact (va_up_n (by omega)).trans hw.h51
  · exact (va_up_n (by omega)).trans hw.h52
  · exact (va_up_n (by omega)).trans hw.h53
  · exact hw.jk
  · exact fun j hj => (va_up_n (by omega)).trans (hw.fr j hj)
theorem MW.set_liF {G : eG} {ad : Nat → Nat} {s : St} {z : Zm} {hm h : Nat → va_E} (hw : MW G ad s z hm h) (k : Nat)  : MW G ad (S_li s (va_up (s_li s) k false)) z hm (va_up h 46 (.inl (G.2.2 2, 4, .inl (upd (fun i => b2i (s_li s i)) k 0)))) := by
  refine ⟨?_, ?_, ?_, ?_, ?_, ?_, ?_, ?_, ?_, ?_, ?_, ?_, ?_, ?_, ?_, ?_, ?_, ?_, ?_, ?_, ?_, ?_⟩
  · exact (va_up_n (by omega)).trans hw.h34
  · exact (va_up_n (by omega)).trans hw.h35
  · exact (va_up_n (by omega)).trans hw.h36
  · exact (va_up_n (by omega)).trans hw.h37
  · exact (va_up_n (by omega)).trans hw.h38
  · exact (va_up_n (by omega)).trans hw.h39
  · exact (va_up_n (by omega)).trans hw.h40
  · exact (va_up_n (by omega)).trans hw.h41
  · exact (va_up_n (by omega)).trans hw.h42
  · exact (va_up_n (by omega)).trans hw.h43
  · exact (va_up_n (by omega)).trans hw.h44
  · exact (va_up_n (by omega)).trans hw.h45
  · exact va_up_s.trans (by congr 4; funext i; simp only [upd, va_up, s_lost, s_lane, s_w, s_h, s_ct, s_bad, s_cn, s_ca, s_cb, s_cr, s_co, s_nm, s_li, s_lA, s_lB, s_lF, s_lc, s_ln, s_gc, s_gr, s_sn, s_cs, s_cc, s_md, S_lost, S_lane, S_w, S_h, S_ct, S_bad, S_cn, S_ca, S_cb, S_cr, S_co, S_nm, S_li, S_lA, S_lB, S_lF, S_lc, S_ln, S_gc, S_gr, S_sn, S_cs, S_cc, S_md, c_pp, c_sr, c_sl, c_sf, c_sq, c_sp, c_bi, c_ba, c_bb, c_bf, C_pp, C_sr, C_sl, C_sf, C_sq, C_sp, C_bi, C_ba, C_bb, C_bf, m_pm, m_pp, m_mo, m_bA, m_bB, m_hh, m_jA, m_jB, m_jF, M_pm, M_pp, M_mo, M_bA, M_bB, M_hh, M_jA, M_jB, M_jF]; split <;> rfl)
  · exact (va_up_n (by omega)).trans hw.h47
  · exact (va_up_n (by omega)).trans hw.h48
  · exact (va_up_n (by omega)).trans hw.h49
  · exact (va_up_n (by omega)).trans hw.h50
  · exact (va_up_n (by omega)).trans hw.h51
  · exact (va_up_n (by omega)).trans hw.h52
  · exact (va_up_n (by omega)).trans hw.h53
  · exact fun c hc hl => by
      by_cases e : c = k
      · subst e; simp [va_up, s_lost, s_lane, s_w, s_h, s_ct, s_bad, s_cn, s_ca, s_cb, s_cr, s_co, s_nm, s_li, s_lA, s_lB, s_lF, s_lc, s_ln, s_gc, s_gr, s_sn, s_cs, s_cc, s_md, S_lost, S_lane, S_w, S_h, S_ct, S_bad, S_cn, S_ca, S_cb, S_cr, S_co, S_nm, S_li, S_lA, S_lB, S_lF, S_lc, S_ln, S_gc, S_gr, S_sn, S_cs, S_cc, S_md, c_pp, c_sr, c_sl, c_sf, c_sq, c_sp, c_bi, c_ba, c_bb, c_bf, C_pp, C_sr, C_sl, C_sf, C_sq, C_sp, C_bi, C_ba, C_bb, C_bf, m_pm, m_pp, m_mo, m_bA, m_bB, m_hh, m_jA, m_jB, m_jF, M_pm, M_pp, M_mo, M_bA, M_bB, M_hh, M_jA, M_jB, M_jF] at hl
      · simp only [va_up, if_neg e, s_lost, s_lane, s_w, s_h, s_ct, s_bad, s_cn, s_ca, s_cb, s_cr, s_co, s_nm, s_li, s_lA, s_lB, s_lF, s_lc, s_ln, s_gc, s_gr, s_sn, s_cs, s_cc, s_md, S_lost, S_lane, S_w, S_h, S_ct, S_bad, S_cn, S_ca, S_cb, S_cr, S_co, S_nm, S_li, S_lA, S_lB, S_lF, S_lc, S_ln, S_gc, S_gr, S_sn, S_cs, S_cc, S_md, c_pp, c_sr, c_sl, c_sf, c_sq, c_sp, c_bi, c_ba, c_bb, c_bf, C_pp, C_sr, C_sl, C_sf, C_sq, C_sp, C_bi, C_ba, C_bb, C_bf, m_pm, m_pp, m_mo, m_bA, m_bB, m_hh, m_jA, m_jB, m_jF, M_pm, M_pp, M_mo, M_bA, M_bB, M_hh, M_jA, M_jB, M_jF] at hl; exact hw.jk c hc hl
  · exact fun j hj => (va_up_n (by omega)).trans (hw.fr j hj)
theorem MW.set_liT {G : eG} {ad : Nat → Nat} {s : St} {z : Zm} {hm h : Nat → va_E} (hw : MW G ad s z hm h) (k : Nat)  : MW G ad (S_lF (S_lB (S_lA (S_li s (va_up (s_li s) k true)) (va_up (s_lA s) k (m_jA z k))) (va_up (s_lB s) k (m_jB z k))) (va_up (s_lF s) k (m_jF z k))) z hm (va_up h 46 (.inl (G.2.2 2, 4, .inl (upd (fun i => b2i (s_li s i)) k 1)))) := by
  refine ⟨?_, ?_, ?_, ?_, ?_, ?_, ?_, ?_, ?_, ?_, ?_, ?_, ?_, ?_, ?_, ?_, ?_, ?_, ?_, ?_, ?_, ?_⟩
  · exact (va_up_n (by omega)).trans hw.h34
  · exact (va_up_n (by omega)).trans hw.h35
  · exact (va_up_n (by omega)).trans hw.h36
  · exact (va_up_n (by omega)).trans hw.h37
  · exact (va_up_n (by omega)).trans hw.h38
  · exact (va_up_n (by omega)).trans hw.h39
  · exact (va_up_n (by omega)).trans hw.h40
  · exact (va_up_n (by omega)).trans hw.h41
  · exact (va_up_n (by omega)).trans hw.h42
  · exact (va_up_n (by omega)).trans hw.h43
  · exact (va_up_n (by omega)).trans hw.h44
  · exact (va_up_n (by omega)).trans hw.h45
  · exact va_up_s.trans (by congr 4; funext i; simp only [upd, va_up, s_lost, s_lane, s_w, s_h, s_ct, s_bad, s_cn, s_ca, s_cb, s_cr, s_co, s_nm, s_li, s_lA, s_lB, s_lF, s_lc, s_ln, s_gc, s_gr, s_sn, s_cs, s_cc, s_md, S_lost, S_lane, S_w, S_h, S_ct, S_bad, S_cn, S_ca, S_cb, S_cr, S_co, S_nm, S_li, S_lA, S_lB, S_lF, S_lc, S_ln, S_gc, S_gr, S_sn, S_cs, S_cc, S_md, c_pp, c_sr, c_sl, c_sf, c_sq, c_sp, c_bi, c_ba, c_bb, c_bf, C_pp, C_sr, C_sl, C_sf, C_sq, C_sp, C_bi, C_ba, C_bb, C_bf, m_pm, m_pp, m_mo, m_bA, m_bB, m_hh, m_jA, m_jB, m_jF, M_pm, M_pp, M_mo, M_bA, M_bB, M_hh, M_jA, M_jB, M_jF]; split <;> rfl)
  · exact (va_up_n (by omega)).trans hw.h47
  · exact (va_up_n (by omega)).trans hw.h48
  · exact (va_up_n (by omega)).trans hw.h49
  · exact (va_up_n (by omega)).trans hw.h50
  · exact (va_up_n (by omega)).trans hw.h51
  · exact (va_up_n (by omega)).trans hw.h52
  · exact (va_up_n (by omega)).trans hw.h53
  · exact fun c hc hl => by
      by_cases e : c = k
      · subst e; simp [va_up, s_lost, s_lane, s_w, s_h, s_ct, s_bad, s_cn, s_ca, s_cb, s_cr, s_co, s_nm, s_li, s_lA, s_lB, s_lF, s_lc, s_ln, s_gc, s_gr, s_sn, s_cs, s_cc, s_md, S_lost, S_lane, S_w, S_h, S_ct, S_bad, S_cn, S_ca, S_cb, S_cr, S_co, S_nm, S_li, S_lA, S_lB, S_lF, S_lc, S_ln, S_gc, S_gr, S_sn, S_cs, S_cc, S_md, c_pp, c_sr, c_sl, c_sf, c_sq, c_sp, c_bi, c_ba, c_bb, c_bf, C_pp, C_sr, C_sl, C_sf, C_sq, C_sp, C_bi, C_ba, C_bb, C_bf, m_pm, m_pp, m_mo, m_bA, m_bB, m_hh, m_jA, m_jB, m_jF, M_pm, M_pp, M_mo, M_bA, M_bB, M_hh, M_jA, M_jB, M_jF]
      · simp only [va_up, if_neg e, s_lost, s_lane, s_w, s_h, s_ct, s_bad, s_cn, s_ca, s_cb, s_cr, s_co, s_nm, s_li, s_lA, s_lB, s_lF, s_lc, s_ln, s_gc, s_gr, s_sn, s_cs, s_cc, s_md, S_lost, S_lane, S_w, S_h, S_ct, S_bad, S_cn, S_ca, S_cb, S_cr, S_co, S_nm, S_li, S_lA, S_lB, S_lF, S_lc, S_ln, S_gc, S_gr, S_sn, S_cs, S_cc, S_md, c_pp, c_sr, c_sl, c_sf, c_sq, c_sp, c_bi, c_ba, c_bb, c_bf, C_pp, C_sr, C_sl, C_sf, C_sq, C_sp, C_bi, C_ba, C_bb, C_bf, m_pm, m_pp, m_mo, m_bA, m_bB, m_hh, m_jA, m_jB, m_jF, M_pm, M_pp, M_mo, M_bA, M_bB, M_hh, M_jA, M_jB, M_jF] at hl ⊢; exact hw.jk c hc hl
  · exact fun j hj => (va_up_n (by omega)).trans (hw.fr j hj)
theorem MW.set_lA {G : eG} {ad : Nat → Nat} {s : St} {z : Zm} {hm h : Nat → va_E} (hw : MW G ad s z hm h) (k : Nat) (v : Int32)  : MW G ad (S_lA s (upd (s_lA s) k v)) (M_jA z (upd (m_jA z) k v)) hm (va_up h 47 (.inl (G.2.2 0, 4, .inl (upd (m_jA z) k v)))) := by
  refine ⟨?_, ?_, ?_, ?_, ?_, ?_, ?_, ?_, ?_, ?_, ?_, ?_, ?_, ?_, ?_, ?_, ?_, ?_, ?_, ?_, ?_, ?_⟩
  · exact (va_up_n (by omega)).trans hw.h34
  · exact (va_up_n (by omega)).trans hw.h35
  · exact (va_up_n (by omega)).trans hw.h36
  · exact (va_up_n (by omega)).trans hw.h37
  · exact (va_up_n (by omega)).trans hw.h38
  · exact (va_up_n (by omega)).trans hw.h39
  · exact (va_up_n (by omega)).trans hw.h40
  · exact (va_up_n (by omega)).trans hw.h41
  · exact (va_up_n (by omega)).trans hw.h42
  · exact (va_up_n (by omega)).trans hw.h43
  · exact (va_up_n (by omega)).trans hw.h44
  · exact (va_up_n (by omega)).trans hw.h45
  · exact (va_up_n (by omega)).trans hw.h46
  · exact va_up_s
  · exact (va_up_n (by omega)).trans hw.h48
  · exact (va_up_n (by omega)).trans hw.h49
  · exact (va_up_n (by omega)).trans hw.h50
  · exact (va_up_n (by omega)).trans hw.h51
  · exact (va_up_n (by omega)).trans hw.h52
  · exact (va_up_n (by omega)).trans hw.h53
  · exact fun c hc hl => by
      have q := hw.jk c hc hl
      simp only [upd, s_lost, s_lane, s_w, s_h, s_ct, s_bad, s_cn, s_ca, s_cb, s_cr, s_co, s_nm, s_li, s_lA, s_lB, s_lF, s_lc, s_ln, s_gc, s_gr, s_sn, s_cs, s_cc, s_md, S_lost, S_lane, S_w, S_h, S_ct, S_bad, S_cn, S_ca, S_cb, S_cr, S_co, S_nm, S_li, S_lA, S_lB, S_lF, S_lc, S_ln, S_gc, S_gr, S_sn, S_cs, S_cc, S_md, c_pp, c_sr, c_sl, c_sf, c_sq, c_sp, c_bi, c_ba, c_bb, c_bf, C_pp, C_sr, C_sl, C_sf, C_sq, C_sp, C_bi, C_ba, C_bb, C_bf, m_pm, m_pp, m_mo, m_bA, m_bB, m_hh, m_jA, m_jB, m_jF, M_pm, M_pp, M_mo, M_bA, M_bB, M_hh, M_jA, M_jB, M_jF] at q ⊢
      refine ⟨?_, ?_, ?_⟩ <;> (try split) <;> (first | rfl | exact q.1 | exact q.2.1 | exact q.2.2)
  · exact fun j hj => (va_up_n (by omega)).trans (hw.fr j hj)
theorem MW.set_lB {G : eG} {ad : Nat → Nat} {s : St} {z : Zm} {hm h : Nat → va_E} (hw : MW G ad s z hm h) (k : Nat) (v : Int32)  : MW G ad (S_lB s (upd (s_lB s) k v)) (M_jB z (upd (m_jB z) k v)) hm (va_up h 48 (.inl (G.2.2 0, 4, .inl (upd (m_jB z) k v)))) := by
  refine ⟨?_, ?_, ?_, ?_, ?_, ?_, ?_, ?_, ?_, ?_, ?_, ?_, ?_, ?_, ?_, ?_, ?_, ?_, ?_, ?_, ?_, ?_⟩
  · exact (va_up_n (by omega)).trans hw.h34
  · exact (va_up_n (by omega)).trans hw.h35
  · exact (va_up_n (by omega)).trans hw.h36
  · exact (va_up_n (by omega)).trans hw.h37
  · exact (va_up_n (by omega)).trans hw.h38
  · exact (va_up_n (by omega)).trans hw.h39
  · exact (va_up_n (by omega)).trans hw.h40
  · exact (va_up_n (by omega)).trans hw.h41
  · exact (va_up_n (by omega)).trans hw.h42
  · exact (va_up_n (by omega)).trans hw.h43
  · exact (va_up_n (by omega)).trans hw.h44
  · exact (va_up_n (by omega)).trans hw.h45
  · exact (va_up_n (by omega)).trans hw.h46
  · exact (va_up_n (by omega)).trans hw.h47
  · exact va_up_s
  · exact (va_up_n (by omega)).trans hw.h49
  · exact (va_up_n (by omega)).trans hw.h50
  · exact (va_up_n (by omega)).trans hw.h51
  · exact (va_up_n (by omega)).trans hw.h52
  · exact (va_up_n (by omega)).trans hw.h53
  · exact fun c hc hl => by
      have q := hw.jk c hc hl
      simp only [upd, s_lost, s_lane, s_w, s_h, s_ct, s_bad, s_cn, s_ca, s_cb, s_cr, s_co, s_nm, s_li, s_lA, s_lB, s_lF, s_lc, s_ln, s_gc, s_gr, s_sn, s_cs, s_cc, s_md, S_lost, S_lane, S_w, S_h, S_ct, S_bad, S_cn, S_ca, S_cb, S_cr, S_co, S_nm, S_li, S_lA, S_lB, S_lF, S_lc, S_ln, S_gc, S_gr, S_sn, S_cs, S_cc, S_md, c_pp, c_sr, c_sl, c_sf, c_sq, c_sp, c_bi, c_ba, c_bb, c_bf, C_pp, C_sr, C_sl, C_sf, C_sq, C_sp, C_bi, C_ba, C_bb, C_bf, m_pm, m_pp, m_mo, m_bA, m_bB, m_hh, m_jA, m_jB, m_jF, M_pm, M_pp, M_mo, M_bA, M_bB, M_hh, M_jA, M_jB, M_jF] at q ⊢
      refine ⟨?_, ?_, ?_⟩ <;> (try split) <;> (first | rfl | exact q.1 | exact q.2.1 | exact q.2.2)
  · exact fun j hj => (va_up_n (by omega)).trans (hw.fr j hj)
theorem MW.set_lF {G : eG} {ad : Nat → Nat} {s : St} {z : Zm} {hm h : Nat → va_E} (hw : MW G ad s z hm h) (k : Nat) (v : Int32)  : MW G ad (S_lF s (upd (s_lF s) k v)) (M_jF z (upd (m_jF z) k v)) hm (va_up h 49 (.inl (G.2.2 0, 4, .inl (upd (m_jF z) k v)))) := by
  refine ⟨?_, ?_, ?_, ?_, ?_, ?_, ?_, ?_, ?_, ?_, ?_, ?_, ?_, ?_, ?_, ?_, ?_, ?_, ?_, ?_, ?_, ?_⟩
  · exact (va_up_n (by omega)).trans hw.h34
  · exact (va_up_n (by omega)).trans hw.h35
  · exact (va_up_n (by omega)).trans hw.h36
  · exact (va_up_n (by omega)).trans hw.h37
  · exact (va_up_n (by omega)).trans hw.h38
  · exact (va_up_n (by omega)).trans hw.h39
  · exact (va_up_n (by omega)).trans hw.h40
  · exact (va_up_n (by omega)).trans hw.h41
  · exact (va_up_n (by omega)).trans hw.h42
  · exact (va_up_n (by omega)).trans hw.h43
  · exact (va_up_n (by omega)).trans hw.h44
  · exact (va_up_n (by omega)).trans hw.h45
  · exact (va_up_n (by omega)).trans hw.h46
  · exact (va_up_n (by omega)).trans hw.h47
  · exact (va_up_n (by omega)).trans hw.h48
  · exact va_up_s
  · exact (va_up_n (by omega)).trans hw.h50
  · exact (va_up_n (by omega)).trans hw.h51
  · exact (va_up_n (by omega)).trans hw.h52
  · exact (va_up_n (by omega)).trans hw.h53
  · exact fun c hc hl => by
      have q := hw.jk c hc hl
      simp only [upd, s_lost, s_lane, s_w, s_h, s_ct, s_bad, s_cn, s_ca, s_cb, s_cr, s_co, s_nm, s_li, s_lA, s_lB, s_lF, s_lc, s_ln, s_gc, s_gr, s_sn, s_cs, s_cc, s_md, S_lost, S_lane, S_w, S_h, S_ct, S_bad, S_cn, S_ca, S_cb, S_cr, S_co, S_nm, S_li, S_lA, S_lB, S_lF, S_lc, S_ln, S_gc, S_gr, S_sn, S_cs, S_cc, S_md, c_pp, c_sr, c_sl, c_sf, c_sq, c_sp, c_bi, c_ba, c_bb, c_bf, C_pp, C_sr, C_sl, C_sf, C_sq, C_sp, C_bi, C_ba, C_bb, C_bf, m_pm, m_pp, m_mo, m_bA, m_bB, m_hh, m_jA, m_jB, m_jF, M_pm, M_pp, M_mo, M_bA, M_bB, M_hh, M_jA, M_jB, M_jF] at q ⊢
      refine ⟨?_, ?_, ?_⟩ <;> (try split) <;> (first | rfl | exact q.1 | exact q.2.1 | exact q.2.2)
  · exact fun j hj => (va_up_n (by omega)).trans (hw.fr j hj)
theorem MW.set_ct {G : eG} {ad : Nat → Nat} {s : St} {z : Zm} {hm h : Nat → va_E} (hw : MW G ad s z hm h) (p k : Nat) (v : Int32) (hk : k < 400) : MW G ad (S_ct s (va_up (s_ct s) p (upd (s_ct s p) k v))) z hm (va_up h 39 (.inl (G.2.2 0, 2400, .inl (upd (fun i => s_ct s (i / 400) (i % 400)) (400 * p + k) v)))) := by
  refine ⟨?_, ?_, ?_, ?_, ?_, ?_, ?_, ?_, ?_, ?_, ?_, ?_, ?_, ?_, ?_, ?_, ?_, ?_, ?_, ?_, ?_, ?_⟩
  · exact (va_up_n (by omega)).trans hw.h34
  · exact (va_up_n (by omega)).trans hw.h35
  · exact (va_up_n (by omega)).trans hw.h36
  · exact (va_up_n (by omega)).trans hw.h37
  · exact (va_up_n (by omega)).trans hw.h38
  · exact va_up_s.trans (by
      congr 4; funext i
      by_cases e : i = 400 * p + k
      · subst e
        have e1 : (400 * p + k) / 400 = p := by omega
        have e2 : (400 * p + k) % 400 = k := by omega
        simp [upd, va_up, e1, e2, s_lost, s_lane, s_w, s_h, s_ct, s_bad, s_cn, s_ca, s_cb, s_cr, s_co, s_nm, s_li, s_lA, s_lB, s_lF, s_lc, s_ln, s_gc, s_gr, s_sn, s_cs, s_cc, s_md, S_lost, S_lane, S_w, S_h, S_ct, S_bad, S_cn, S_ca, S_cb, S_cr, S_co, S_nm, S_li, S_lA, S_lB, S_lF, S_lc, S_ln, S_gc, S_gr, S_sn, S_cs, S_cc, S_md, c_pp, c_sr, c_sl, c_sf, c_sq, c_sp, c_bi, c_ba, c_bb, c_bf, C_pp, C_sr, C_sl, C_sf, C_sq, C_sp, C_bi, C_ba, C_bb, C_bf, m_pm, m_pp, m_mo, m_bA, m_bB, m_hh, m_jA, m_jB, m_jF, M_pm, M_pp, M_mo, M_bA, M_bB, M_hh, M_jA, M_jB, M_jF]
      · have e3 : ¬ (i / 400 = p ∧ i % 400 = k) := by omega
        simp only [upd, va_up, if_neg e, s_lost, s_lane, s_w, s_h, s_ct, s_bad, s_cn, s_ca, s_cb, s_cr, s_co, s_nm, s_li, s_lA, s_lB, s_lF, s_lc, s_ln, s_gc, s_gr, s_sn, s_cs, s_cc, s_md, S_lost, S_lane, S_w, S_h, S_ct, S_bad, S_cn, S_ca, S_cb, S_cr, S_co, S_nm, S_li, S_lA, S_lB, S_lF, S_lc, S_ln, S_gc, S_gr, S_sn, S_cs, S_cc, S_md, c_pp, c_sr, c_sl, c_sf, c_sq, c_sp, c_bi, c_ba, c_bb, c_bf, C_pp, C_sr, C_sl, C_sf, C_sq, C_sp, C_bi, C_ba, C_bb, C_bf, m_pm, m_pp, m_mo, m_bA, m_bB, m_hh, m_jA, m_jB, m_jF, M_pm, M_pp, M_mo, M_bA, M_bB, M_hh, M_jA, M_jB, M_jF]
        by_cases e4 : i / 400 = p
        · have e5 : ¬ i % 400 = k := fun q => e3 ⟨e4, q⟩
          simp [e4, e5, upd, va_up]
        · simp [e4])
  · exact (va_up_n (by omega)).trans hw.h40
  · exact (va_up_n (by omega)).trans hw.h41
  · exact (va_up_n (by omega)).trans hw.h42
  · exact (va_up_n (by omega)).trans hw.h43
  · exact (va_up_n (by omega)).trans hw.h44
  · exact (va_up_n (by omega)).trans hw.h45
  · exact (va_up_n (by omega)).trans hw.h46
  · exact (va_up_n (by omega)).trans hw.h47
  · exact (va_up_n (by omega)).trans hw.h48
  · exact (va_up_n (by omega)).trans hw.h49
  · exact (va_up_n (by omega)).trans hw.h50
  · exact (va_up_n (by omega)).trans hw.h51
  · exact (va_up_n (by omega)).trans hw.h52
  · exact (va_up_n (by omega)).trans hw.h53
  · exact hw.jk
  · exact fun j hj => (va_up_n (by omega)).trans (hw.fr j hj)
theorem MW.set_nm {G : eG} {ad : Nat → Nat} {s : St} {z : Zm} {hm h : Nat → va_E} (hw : MW G ad s z hm h) (p k : Nat) (v : Nat) (hk : k < 20) : MW G ad (S_nm s (va_up (s_nm s) p (va_up (s_nm s p) k v))) z hm (va_up h 45 (.inl (G.2.2 1, 80, .inr (.inl (vp_updL (fun i => lN (s_nm s (i / 20) (i % 20))) (20 * p + k) (lN v)))))) := by
  refine ⟨?_, ?_, ?_, ?_, ?_, ?_, ?_, ?_, ?_, ?_, ?_, ?_, ?_, ?_, ?_, ?_, ?_, ?_, ?_, ?_, ?_, ?_⟩
  · exact (va_up_n (by omega)).trans hw.h34
  · exact (va_up_n (by omega)).trans hw.h35
  · exact (va_up_n (by omega)).trans hw.h36
  · exact (va_up_n (by omega)).trans hw.h37
  · exact (va_up_n (by omega)).trans hw.h38
  · exact (va_up_n (by omega)).trans hw.h39
  · exact (va_up_n (by omega)).trans hw.h40
  · exact (va_up_n (by omega)).trans hw.h41
  · exact (va_up_n (by omega)).trans hw.h42
  · exact (va_up_n (by omega)).trans hw.h43
  · exact (va_up_n (by omega)).trans hw.h44
  · exact va_up_s.trans (by
      congr 5; funext i
      by_cases e : i = 20 * p + k
      · subst e
        have e1 : (20 * p + k) / 20 = p := by omega
        have e2 : (20 * p + k) % 20 = k := by omega
        simp [vp_updL, va_up, e1, e2, s_lost, s_lane, s_w, s_h, s_ct, s_bad, s_cn, s_ca, s_cb, s_cr, s_co, s_nm, s_li, s_lA, s_lB, s_lF, s_lc, s_ln, s_gc, s_gr, s_sn, s_cs, s_cc, s_md, S_lost, S_lane, S_w, S_h, S_ct, S_bad, S_cn, S_ca, S_cb, S_cr, S_co, S_nm, S_li, S_lA, S_lB, S_lF, S_lc, S_ln, S_gc, S_gr, S_sn, S_cs, S_cc, S_md, c_pp, c_sr, c_sl, c_sf, c_sq, c_sp, c_bi, c_ba, c_bb, c_bf, C_pp, C_sr, C_sl, C_sf, C_sq, C_sp, C_bi, C_ba, C_bb, C_bf, m_pm, m_pp, m_mo, m_bA, m_bB, m_hh, m_jA, m_jB, m_jF, M_pm, M_pp, M_mo, M_bA, M_bB, M_hh, M_jA, M_jB, M_jF]
      · have e3 : ¬ (i / 20 = p ∧ i % 20 = k) := by omega
        simp only [vp_updL, va_up, if_neg e, s_lost, s_lane, s_w, s_h, s_ct, s_bad, s_cn, s_ca, s_cb, s_cr, s_co, s_nm, s_li, s_lA, s_lB, s_lF, s_lc, s_ln, s_gc, s_gr, s_sn, s_cs, s_cc, s_md, S_lost, S_lane, S_w, S_h, S_ct, S_bad, S_cn, S_ca, S_cb, S_cr, S_co, S_nm, S_li, S_lA, S_lB, S_lF, S_lc, S_ln, S_gc, S_gr, S_sn, S_cs, S_cc, S_md, c_pp, c_sr, c_sl, c_sf, c_sq, c_sp, c_bi, c_ba, c_bb, c_bf, C_pp, C_sr, C_sl, C_sf, C_sq, C_sp, C_bi, C_ba, C_bb, C_bf, m_pm, m_pp, m_mo, m_bA, m_bB, m_hh, m_jA, m_jB, m_jF, M_pm, M_pp, M_mo, M_bA, M_bB, M_hh, M_jA, M_jB, M_jF]
        by_cases e4 : i / 20 = p
        · have e5 : ¬ i % 20 = k := fun q => e3 ⟨e4, q⟩
          simp [e4, e5, upd, va_up]
        · simp [e4])
  · exact (va_up_n (by omega)).trans hw.h46
  · exact (va_up_n (by omega)).trans hw.h47
  · exact (va_up_n (by omega)).trans hw.h48
  · exact (va_up_n (by omega)).trans hw.h49
  · exact (va_up_n (by omega)).trans hw.h50
  · exact (va_up_n (by omega)).trans hw.h51
  · exact (va_up_n (by omega)).trans hw.h52
  · exact (va_up_n (by omega)).trans hw.h53
  · exact hw.jk
  · exact fun j hj => (va_up_n (by omega)).trans (hw.fr j hj)
theorem MW.set_ln {G : eG} {ad : Nat → Nat} {s : St} {z : Zm} {hm h : Nat → va_E} (hw : MW G ad s z hm h) (k : Nat) (v : Int32)  : MW G ad (S_ln s (upd (s_ln s) k v)) z hm (va_up h 50 (.inl (G.2.2 0, 12, .inl (upd (s_ln s) k v)))) := by
  refine ⟨?_, ?_, ?_, ?_, ?_, ?_, ?_, ?_, ?_, ?_, ?_, ?_, ?_, ?_, ?_, ?_, ?_, ?_, ?_, ?_, ?_, ?_⟩
  · exact (va_up_n (by omega)).trans hw.h34
  · exact (va_up_n (by omega)).trans hw.h35
  · exact (va_up_n (by omega)).trans hw.h36
  · exact (va_up_n (by omega)).trans hw.h37
  · exact (va_up_n (by omega)).trans hw.h38
  · exact (va_up_n (by omega)).trans hw.h39
  · exact (va_up_n (by omega)).trans hw.h40
  · exact (va_up_n (by omega)).trans hw.h41
  · exact (va_up_n (by omega)).trans hw.h42
  · exact (va_up_n (by omega)).trans hw.h43
  · exact (va_up_n (by omega)).trans hw.h44
  · exact (va_up_n (by omega)).trans hw.h45
  · exact (va_up_n (by omega)).trans hw.h46
  · exact (va_up_n (by omega)).trans hw.h47
  · exact (va_up_n (by omega)).trans hw.h48
  · exact (va_up_n (by omega)).trans hw.h49
  · exact va_up_s
  · exact (va_up_n (by omega)).trans hw.h51
  · exact (va_up_n (by omega)).trans hw.h52
  · exact (va_up_n (by omega)).trans hw.h53
  · exact hw.jk
  · exact fun j hj => (va_up_n (by omega)).trans (hw.fr j hj)
theorem MW.set_gr {G : eG} {ad : Nat → Nat} {s : St} {z : Zm} {hm h : Nat → va_E} (hw : MW G ad s z hm h) (k : Nat) (v : Int64)  : MW G ad (S_gr s (vp_updL (s_gr s) k v)) z hm (va_up h 51 (.inl (G.2.2 1, 60, .inr (.inl (vp_updL (s_gr s) k v))))) := by
  refine ⟨?_, ?_, ?_, ?_, ?_, ?_, ?_, ?_, ?_, ?_, ?_, ?_, ?_, ?_, ?_, ?_, ?_, ?_, ?_, ?_, ?_, ?_⟩
  · exact (va_up_n (by omega)).trans hw.h34
  · exact (va_up_n (by omega)).trans hw.h35
  · exact (va_up_n (by omega)).trans hw.h36
  · exact (va_up_n (by omega)).trans hw.h37
  · exact (va_up_n (by omega)).trans hw.h38
  · exact (va_up_n (by omega)).trans hw.h39
  · exact (va_up_n (by omega)).trans hw.h40
  · exact (va_up_n (by omega)).trans hw.h41
  · exact (va_up_n (by omega)).trans hw.h42
  · exact (va_up_n (by omega)).trans hw.h43
  · exact (va_up_n (by omega)).trans hw.h44
  · exact (va_up_n (by omega)).trans hw.h45
  · exact (va_up_n (by omega)).trans hw.h46
  · exact (va_up_n (by omega)).trans hw.h47
  · exact (va_up_n (by omega)).trans hw.h48
  · exact (va_up_n (by omega)).trans hw.h49
  · exact (va_up_n (by omega)).trans hw.h50
  · exact va_up_s
  · exact (va_up_n (by omega)).trans hw.h52
  · exact (va_up_n (by omega)).trans hw.h53
  · exact hw.jk
  · exact fun j hj => (va_up_n (by omega)).trans (hw.fr j hj)
theorem MW.set_cc {G : eG} {ad : Nat → Nat} {s : St} {z : Zm} {hm h : Nat → va_E} (hw : MW G ad s z hm h) (k : Nat) (v : Int32)  : MW G ad (S_cc s (upd (s_cc s) k v)) z hm (va_up h 52 (.inl (G.2.2 0, 6, .inl (upd (s_cc s) k v)))) := by
  refine ⟨?_, ?_, ?_, ?_, ?_, ?_, ?_, ?_, ?_, ?_, ?_, ?_, ?_, ?_, ?_, ?_, ?_, ?_, ?_, ?_, ?_, ?_⟩
  · exact (va_up_n (by omega)).trans hw.h34
  · exact (va_up_n (by omega)).trans hw.h35
  · exact (va_up_n (by omega)).trans hw.h36
  · exact (va_up_n (by omega)).trans hw.h37
  · exact (va_up_n (by omega)).trans hw.h38
  · exact (va_up_n (by omega)).trans hw.h39
  · exact (va_up_n (by omega)).trans hw.h40
  · exact (va_up_n (by omega)).trans hw.h41
  · exact (va_up_n (by omega)).trans hw.h42
  · exact (va_up_n (by omega)).trans hw.h43
  · exact (va_up_n (by omega)).trans hw.h44
  · exact (va_up_n (by omega)).trans hw.h45
  · exact (va_up_n (by omega)).trans hw.h46
  · exact (va_up_n (by omega)).trans hw.h47
  · exact (va_up_n (by omega)).trans hw.h48
  · exact (va_up_n (by omega)).trans hw.h49
  · exact (va_up_n (by omega)).trans hw.h50
  · exact (va_up_n (by omega)).trans hw.h51
  · exact va_up_s
  · exact (va_up_n (by omega)).trans hw.h53
  · exact hw.jk
  · exact fun j hj => (va_up_n (by omega)).trans (hw.fr j hj)
theorem MW.set_pp {G : eG} {ad : Nat → Nat} {s : St} {z : Zm} {hm h : Nat → va_E} (hw : MW G ad s z hm h) (k : Nat) (v : Int32)  : MW G ad s (M_pp z (upd (m_pp z) k v)) hm (va_up h 53 (.inl (G.2.2 0, 20, .inl (upd (m_pp z) k v)))) := by
  refine ⟨?_, ?_, ?_, ?_, ?_, ?_, ?_, ?_, ?_, ?_, ?_, ?_, ?_, ?_, ?_, ?_, ?_, ?_, ?_, ?_, ?_, ?_⟩
  · exact (va_up_n (by omega)).trans hw.h34
  · exact (va_up_n (by omega)).trans hw.h35
  · exact (va_up_n (by omega)).trans hw.h36
  · exact (va_up_n (by omega)).trans hw.h37
  · exact (va_up_n (by omega)).trans hw.h38
  · exact (va_up_n (by omega)).trans hw.h39
  · exact (va_up_n (by omega)).trans hw.h40
  · exact (va_up_n (by omega)).trans hw.h41
  · exact (va_up_n (by omega)).trans hw.h42
  · exact (va_up_n (by omega)).trans hw.h43
  · exact (va_up_n (by omega)).trans hw.h44
  · exact (va_up_n (by omega)).trans hw.h45
  · exact (va_up_n (by omega)).trans hw.h46
  · exact (va_up_n (by omega)).trans hw.h47
  · exact (va_up_n (by omega)).trans hw.h48
  · exact (va_up_n (by omega)).trans hw.h49
  · exact (va_up_n (by omega)).trans hw.h50
  · exact (va_up_n (by omega)).trans hw.h51
  · exact (va_up_n (by omega)).trans hw.h52
  · exact va_up_s
  · exact hw.jk
  · exact fun j hj => (va_up_n (by omega)).trans (hw.fr j hj)
end
section
theorem nI_inc (i : Nat) : nI i + Int32.ofInt 1 = nI (i + 1) := nI_1 i
theorem i_nat {x : Int32} (h0 : 0 ≤ x.toInt) : ∃ k : Nat, x = nI k ∧ x.toInt = k ∧ k < 2147483648 := by
  refine ⟨x.toInt.toNat, ?_, by omega, by have := i_hi x; omega⟩
  rw [nI_iI, Int.toNat_of_nonneg h0, iI_of]
theorem nI_t {n : Nat} (h : n < 2147483648) : (nI n).toInt = n := nI_toInt (by omega)
theorem lN_t {n : Nat} (h : n < 9223372036854775808) : (lN n).toInt = n := by rw [lN_jI]; exact jI_toInt (by omega) (by omega)
theorem nI_at (y x : Nat) : nI y * 20 + nI x = nI (y * 20 + x) := by
  rw [show (20 : Int32) = nI 20 from rfl, pk_mul, nI_add]
theorem EV.abs {G : eG} {M : eM} {cc : ByteArray} {X : Option (Nat × Nat × (Nat → Int32))} {ad : Nat → Nat} {n : Nat} {post : eP} {pc : Nat} {lv : List (Option Value)} {st : List Value} {h : Nat → va_E} {Pr : (Nat → va_E) → Prop} (hp : Pr h) (k : ∀ h2, Pr h2 → EV G M cc X ad n post pc lv st h2) : EV G M cc X ad n post pc lv st h := k h hp

set_option maxHeartbeats 4000000 in
set_option maxRecDepth 100000 in
theorem m_become {G : eG} {ad : Nat → Nat} {h : Nat → va_E} (q : Nat) (i a b f : Int32) (a2 b2 f2 : Int32) (hq : q < 54) (hh : h q = .inr (1, [.int i, .int a, .int b, .int f])) : MC G M_X1_become cX1_become ad 54 [.ref (ad q), .int a2, .int b2, .int f2] h (IS none (va_up h q (.inr (1, [.int 1, .int a2, .int b2, .int f2])))) := by
  refine MC.of (by decide +kernel) (Nat.le_of_ble_eq_true rfl) (by dsimp only [linit, Nat.reduceSub, List.reduceReplicate] <;> rfl) ?_
  refine EV.aload_n (pc := 0) dX1_become_0 rfl ?_
  refine EV.iconst (pc := 1) (v := 1) dX1_become_1 (by decide) ?_
  refine EV.putf (pc := 2) dX1_become_2 fpX1_7 hq hh rfl rfl (Nat.le_of_ble_eq_true rfl) ?_
  refine EV.aload_n (pc := 5) dX1_become_5 rfl ?_
  refine EV.iload_n (pc := 6) dX1_become_6 rfl ?_
  refine EV.putf (pc := 7) dX1_become_7 fpX1_13 hq va_up_s rfl rfl (Nat.le_of_ble_eq_true rfl) ?_
  refine EV.aload_n (pc := 10) dX1_become_10 rfl ?_
  refine EV.iload_n (pc := 11) dX1_become_11 rfl ?_
  refine EV.putf (pc := 12) dX1_become_12 fpX1_17 hq va_up_s rfl rfl (Nat.le_of_ble_eq_true rfl) ?_
  refine EV.aload_n (pc := 15) dX1_become_15 rfl ?_
  refine EV.iload_n (pc := 16) dX1_become_16 rfl ?_
  refine EV.putf (pc := 17) dX1_become_17 fpX1_20 hq va_up_s rfl rfl (Nat.le_of_ble_eq_true rfl) ?_
  exact EV.vret (pc := 20) dX1_become_20 trivial ⟨rfl, by simp only [bx_uu]; rfl⟩

set_option maxHeartbeats 4000000 in
set_option maxRecDepth 100000 in
theorem m_drop {G : eG} {ad : Nat → Nat} {h : Nat → va_E} (q : Nat) (i a b f : Int32) (hq : q < 54) (hh : h q = .inr (1, [.int i, .int a, .int b, .int f])) : MC G M_X1_drop cX1_drop ad 54 [.ref (ad q)] h (IS none (va_up h q (.inr (1, [.int 0, .int 0, .int 0, .int 0])))) := by
  refine MC.of (by decide +kernel) (Nat.le_of_ble_eq_true rfl) (by dsimp only [linit, Nat.reduceSub, List.reduceReplicate] <;> rfl) ?_
  refine EV.aload_n (pc := 0) dX1_drop_0 rfl ?_
  refine EV.iconst (pc := 1) (v := 0) dX1_drop_1 (by decide) ?_
  refine EV.putf (pc := 2) dX1_drop_2 fpX1_7 hq hh rfl rfl (Nat.le_of_ble_eq_true rfl) ?_
  refine EV.aload_n (pc := 5) dX1_drop_5 rfl ?_
  refine EV.iconst (pc := 6) (v := 0) dX1_drop_6 (by decide) ?_
  refine EV.putf (pc := 7) dX1_drop_7 fpX1_13 hq va_up_s rfl rfl (Nat.le_of_ble_eq_true rfl) ?_
  refine EV.aload_n (pc := 10) dX1_drop_10 rfl ?_
  refine EV.iconst (pc := 11) (v := 0) dX1_drop_11 (by decide) ?_
  refine EV.putf (pc := 12) dX1_drop_12 fpX1_17 hq va_up_s rfl rfl (Nat.le_of_ble_eq_true rfl) ?_
  refine EV.aload_n (pc := 15) dX1_drop_15 rfl ?_
  refine EV.iconst (pc := 16) (v := 0) dX1_drop_16 (by decide) ?_
  refine EV.putf (pc := 17) dX1_drop_17 fpX1_20 hq va_up_s rfl rfl (Nat.le_of_ble_eq_true rfl) ?_
  exact EV.vret (pc := 20) dX1_drop_20 trivial ⟨rfl, by simp only [bx_uu]; rfl⟩

set_option maxHeartbeats 4000000 in
set_option maxRecDepth 100000 in
theorem m_losesTo {G : eG} {ad : Nat → Nat} {h : Nat → va_E} (q : Nat) (i : Bool) (a b f a2 b2 f2 : Int32) (hq : q < 54) (hh : h q = .inr (1, [.int (b2i i), .int a, .int b, .int f])) : MC G M_X1_losesTo cX1_losesTo ad 54 [.ref (ad q), .int a2, .int b2, .int f2] h (IS (some (.int (b2i (decide (i = false ∨ f.toInt < f2.toInt ∨ (f2.toInt = f.toInt ∧ (b2.toInt < b.toInt ∨ (b2.toInt = b.toInt ∧ a2.toInt < a.toInt)))))))) h) := by
  refine MC.of (by decide +kernel) (Nat.le_of_ble_eq_true rfl) (by dsimp only [linit, Nat.reduceSub, List.reduceReplicate] <;> rfl) ?_
  refine EV.aload_n (pc := 0) dX1_losesTo_0 rfl ?_
  refine EV.getf (pc := 1) dX1_losesTo_1 fgX1_7 hq hh rfl ?_
  refine EV.if_eq (pc := 4) (tgt := 15) dX1_losesTo_4 (by decide) (fun c4 => ?_) (fun c4 => ?_)
  · replace c4 := b2i_eq c4
    refine EV.aload_n (pc := 15) dX1_losesTo_15 rfl ?_
    refine EV.getf (pc := 16) dX1_losesTo_16 fgX1_7 hq hh rfl ?_
    refine EV.if_eq (pc := 19) (tgt := 30) dX1_losesTo_19 (by decide) (fun c19 => ?_) (fun c19 => ?_)
    · replace c19 := b2i_eq c19
      refine EV.iconst (pc := 30) (v := 1) dX1_losesTo_30 (by decide) ?_
      refine EV.goto (pc := 31) (tgt := 35) dX1_losesTo_31 (by decide) ?_
      refine EV.iret (pc := 35) dX1_losesTo_35 (by rfl) ?_
      exact ⟨congrArg (fun z => some (Value.int z)) (by first | exact b2i_1 (by (try simp only [Int32.lt_iff_toInt_lt, Int32.le_iff_toInt_le, ← Int32.toInt_inj, Int64.lt_iff_toInt_lt, Int64.le_iff_toInt_le, ← Int64.toInt_inj, i_l0, i_l1, i_l2, i_l5, i_l19, i_m1, j_l0, j_l1, j_l5, Int32.toInt_toInt64] at *); first | exact absurd (c4.symm.trans c19) (by decide) | exact absurd (c19.symm.trans c4) (by decide) | (simp only [c4, true_or]; done) | (simp only [c4, reduceCtorEq, false_or]; omega)) | exact b2i_0 (by (try simp only [Int32.lt_iff_toInt_lt, Int32.le_iff_toInt_le, ← Int32.toInt_inj, Int64.lt_iff_toInt_lt, Int64.le_iff_toInt_le, ← Int64.toInt_inj, i_l0, i_l1, i_l2, i_l5, i_l19, i_m1, j_l0, j_l1, j_l5, Int32.toInt_toInt64] at *); first | exact absurd (c4.symm.trans c19) (by decide) | exact absurd (c19.symm.trans c4) (by decide) | (simp only [c4, true_or]; done) | (simp only [c4, reduceCtorEq, false_or]; omega))), rfl⟩
    · replace c19 := b2i_ne c19
      refine EV.iload_n (pc := 22) dX1_losesTo_22 rfl ?_
      refine EV.aload_n (pc := 23) dX1_losesTo_23 rfl ?_
      refine EV.getf (pc := 24) dX1_losesTo_24 fgX1_20 hq hh rfl ?_
      refine EV.icmp_le (pc := 27) (tgt := 34) dX1_losesTo_27 (by decide) (fun c27 => ?_) (fun c27 => ?_)
      · refine EV.iconst (pc := 34) (v := 0) dX1_losesTo_34 (by decide) ?_
        refine EV.iret (pc := 35) dX1_losesTo_35 (by rfl) ?_
        exact ⟨congrArg (fun z => some (Value.int z)) (by first | exact b2i_1 (by (try simp only [Int32.lt_iff_toInt_lt, Int32.le_iff_toInt_le, ← Int32.toInt_inj, Int64.lt_iff_toInt_lt, Int64.le_iff_toInt_le, ← Int64.toInt_inj, i_l0, i_l1, i_l2, i_l5, i_l19, i_m1, j_l0, j_l1, j_l5, Int32.toInt_toInt64] at *); first | exact absurd (c4.symm.trans c19) (by decide) | exact absurd (c19.symm.trans c4) (by decide) | (simp only [c4, true_or]; done) | (simp only [c4, reduceCtorEq, false_or]; omega)) | exact b2i_0 (by (try simp only [Int32.lt_iff_toInt_lt, Int32.le_iff_toInt_le, ← Int32.toInt_inj, Int64.lt_iff_toInt_lt, Int64.le_iff_toInt_le, ← Int64.toInt_inj, i_l0, i_l1, i_l2, i_l5, i_l19, i_m1, j_l0, j_l1, j_l5, Int32.toInt_toInt64] at *); first | exact absurd (c4.symm.trans c19) (by decide) | exact absurd (c19.symm.trans c4) (by decide) | (simp only [c4, true_or]; done) | (simp only [c4, reduceCtorEq, false_or]; omega))), rfl⟩
      · refine EV.iconst (pc := 30) (v := 1) dX1_losesTo_30 (by decide) ?_
        refine EV.goto (pc := 31) (tgt := 35) dX1_losesTo_31 (by decide) ?_
        refine EV.iret (pc := 35) dX1_losesTo_35 (by rfl) ?_
        exact ⟨congrArg (fun z => some (Value.int z)) (by first | exact b2i_1 (by (try simp only [Int32.lt_iff_toInt_lt, Int32.le_iff_toInt_le, ← Int32.toInt_inj, Int64.lt_iff_toInt_lt, Int64.le_iff_toInt_le, ← Int64.toInt_inj, i_l0, i_l1, i_l2, i_l5, i_l19, i_m1, j_l0, j_l1, j_l5, Int32.toInt_toInt64] at *); first | exact absurd (c4.symm.trans c19) (by decide) | exact absurd (c19.symm.trans c4) (by decide) | (simp only [c4, true_or]; done) | (simp only [c4, reduceCtorEq, false_or]; omega)) | exact b2i_0 (by (try simp only [Int32.lt_iff_toInt_lt, Int32.le_iff_toInt_le, ← Int32.toInt_inj, Int64.lt_iff_toInt_lt, Int64.le_iff_toInt_le, ← Int64.toInt_inj, i_l0, i_l1, i_l2, i_l5, i_l19, i_m1, j_l0, j_l1, j_l5, Int32.toInt_toInt64] at *); first | exact absurd (c4.symm.trans c19) (by decide) | exact absurd (c19.symm.trans c4) (by decide) | (simp only [c4, true_or]; done) | (simp only [c4, reduceCtorEq, false_or]; omega))), rfl⟩
  · replace c4 := b2i_ne c4
    refine EV.iload_n (pc := 7) dX1_losesTo_7 rfl ?_
    refine EV.aload_n (pc := 8) dX1_losesTo_8 rfl ?_
    refine EV.getf (pc := 9) dX1_losesTo_9 fgX1_20 hq hh rfl ?_
    refine EV.icmp_eq (pc := 12) (tgt := 36) dX1_losesTo_12 (by decide) (fun c12 => ?_) (fun c12 => ?_)
    · refine EV.iload_n (pc := 36) dX1_losesTo_36 rfl ?_
      refine EV.aload_n (pc := 37) dX1_losesTo_37 rfl ?_
      refine EV.getf (pc := 38) dX1_losesTo_38 fgX1_17 hq hh rfl ?_
      refine EV.icmp_lt (pc := 41) (tgt := 60) dX1_losesTo_41 (by decide) (fun c41 => ?_) (fun c41 => ?_)
      · refine EV.iconst (pc := 60) (v := 1) dX1_losesTo_60 (by decide) ?_
        refine EV.goto (pc := 61) (tgt := 65) dX1_losesTo_61 (by decide) ?_
        refine EV.iret (pc := 65) dX1_losesTo_65 (by rfl) ?_
        exact ⟨congrArg (fun z => some (Value.int z)) (by first | exact b2i_1 (by (try simp only [Int32.lt_iff_toInt_lt, Int32.le_iff_toInt_le, ← Int32.toInt_inj, Int64.lt_iff_toInt_lt, Int64.le_iff_toInt_le, ← Int64.toInt_inj, i_l0, i_l1, i_l2, i_l5, i_l19, i_m1, j_l0, j_l1, j_l5, Int32.toInt_toInt64] at *); first | exact absurd (c4.symm.trans c19) (by decide) | exact absurd (c19.symm.trans c4) (by decide) | (simp only [c4, true_or]; done) | (simp only [c4, reduceCtorEq, false_or]; omega)) | exact b2i_0 (by (try simp only [Int32.lt_iff_toInt_lt, Int32.le_iff_toInt_le, ← Int32.toInt_inj, Int64.lt_iff_toInt_lt, Int64.le_iff_toInt_le, ← Int64.toInt_inj, i_l0, i_l1, i_l2, i_l5, i_l19, i_m1, j_l0, j_l1, j_l5, Int32.toInt_toInt64] at *); first | exact absurd (c4.symm.trans c19) (by decide) | exact absurd (c19.symm.trans c4) (by decide) | (simp only [c4, true_or]; done) | (simp only [c4, reduceCtorEq, false_or]; omega))), rfl⟩
      · refine EV.iload_n (pc := 44) dX1_losesTo_44 rfl ?_
        refine EV.aload_n (pc := 45) dX1_losesTo_45 rfl ?_
        refine EV.getf (pc := 46) dX1_losesTo_46 fgX1_17 hq hh rfl ?_
        refine EV.icmp_ne (pc := 49) (tgt := 64) dX1_losesTo_49 (by decide) (fun c49 => ?_) (fun c49 => ?_)
        · refine EV.iconst (pc := 64) (v := 0) dX1_losesTo_64 (by decide) ?_
          refine EV.iret (pc := 65) dX1_losesTo_65 (by rfl) ?_
          exact ⟨congrArg (fun z => some (Value.int z)) (by first | exact b2i_1 (by (try simp only [Int32.lt_iff_toInt_lt, Int32.le_iff_toInt_le, ← Int32.toInt_inj, Int64.lt_iff_toInt_lt, Int64.le_iff_toInt_le, ← Int64.toInt_inj, i_l0, i_l1, i_l2, i_l5, i_l19, i_m1, j_l0, j_l1, j_l5, Int32.toInt_toInt64] at *); first | exact absurd (c4.symm.trans c19) (by decide) | exact absurd (c19.symm.trans c4) (by decide) | (simp only [c4, true_or]; done) | (simp only [c4, reduceCtorEq, false_or]; omega)) | exact b2i_0 (by (try simp only [Int32.lt_iff_toInt_lt, Int32.le_iff_toInt_le, ← Int32.toInt_inj, Int64.lt_iff_toInt_lt, Int64.le_iff_toInt_le, ← Int64.toInt_inj, i_l0, i_l1, i_l2, i_l5, i_l19, i_m1, j_l0, j_l1, j_l5, Int32.toInt_toInt64] at *); first | exact absurd (c4.symm.trans c19) (by decide) | exact absurd (c19.symm.trans c4) (by decide) | (simp only [c4, true_or]; done) | (simp only [c4, reduceCtorEq, false_or]; omega))), rfl⟩
        · refine EV.iload_n (pc := 52) dX1_losesTo_52 rfl ?_
          refine EV.aload_n (pc := 53) dX1_losesTo_53 rfl ?_
          refine EV.getf (pc := 54) dX1_losesTo_54 fgX1_13 hq hh rfl ?_
          refine EV.icmp_ge (pc := 57) (tgt := 64) dX1_losesTo_57 (by decide) (fun c57 => ?_) (fun c57 => ?_)
          · refine EV.iconst (pc := 64) (v := 0) dX1_losesTo_64 (by decide) ?_
            refine EV.iret (pc := 65) dX1_losesTo_65 (by rfl) ?_
            exact ⟨congrArg (fun z => some (Value.int z)) (by first | exact b2i_1 (by (try simp only [Int32.lt_iff_toInt_lt, Int32.le_iff_toInt_le, ← Int32.toInt_inj, Int64.lt_iff_toInt_lt, Int64.le_iff_toInt_le, ← Int64.toInt_inj, i_l0, i_l1, i_l2, i_l5, i_l19, i_m1, j_l0, j_l1, j_l5, Int32.toInt_toInt64] at *); first | exact absurd (c4.symm.trans c19) (by decide) | exact absurd (c19.symm.trans c4) (by decide) | (simp only [c4, true_or]; done) | (simp only [c4, reduceCtorEq, false_or]; omega)) | exact b2i_0 (by (try simp only [Int32.lt_iff_toInt_lt, Int32.le_iff_toInt_le, ← Int32.toInt_inj, Int64.lt_iff_toInt_lt, Int64.le_iff_toInt_le, ← Int64.toInt_inj, i_l0, i_l1, i_l2, i_l5, i_l19, i_m1, j_l0, j_l1, j_l5, Int32.toInt_toInt64] at *); first | exact absurd (c4.symm.trans c19) (by decide) | exact absurd (c19.symm.trans c4) (by decide) | (simp only [c4, true_or]; done) | (simp only [c4, reduceCtorEq, false_or]; omega))), rfl⟩
          · refine EV.iconst (pc := 60) (v := 1) dX1_losesTo_60 (by decide) ?_
            refine EV.goto (pc := 61) (tgt := 65) dX1_losesTo_61 (by decide) ?_
            refine EV.iret (pc := 65) dX1_losesTo_65 (by rfl) ?_
            exact ⟨congrArg (fun z => some (Value.int z)) (by first | exact b2i_1 (by (try simp only [Int32.lt_iff_toInt_lt, Int32.le_iff_toInt_le, ← Int32.toInt_inj, Int64.lt_iff_toInt_lt, Int64.le_iff_toInt_le, ← Int64.toInt_inj, i_l0, i_l1, i_l2, i_l5, i_l19, i_m1, j_l0, j_l1, j_l5, Int32.toInt_toInt64] at *); first | exact absurd (c4.symm.trans c19) (by decide) | exact absurd (c19.symm.trans c4) (by decide) | (simp only [c4, true_or]; done) | (simp only [c4, reduceCtorEq, false_or]; omega)) | exact b2i_0 (by (try simp only [Int32.lt_iff_toInt_lt, Int32.le_iff_toInt_le, ← Int32.toInt_inj, Int64.lt_iff_toInt_lt, Int64.le_iff_toInt_le, ← Int64.toInt_inj, i_l0, i_l1, i_l2, i_l5, i_l19, i_m1, j_l0, j_l1, j_l5, Int32.toInt_toInt64] at *); first | exact absurd (c4.symm.trans c19) (by decide) | exact absurd (c19.symm.trans c4) (by decide) | (simp only [c4, true_or]; done) | (simp only [c4, reduceCtorEq, false_or]; omega))), rfl⟩
    · refine EV.aload_n (pc := 15) dX1_losesTo_15 rfl ?_
      refine EV.getf (pc := 16) dX1_losesTo_16 fgX1_7 hq hh rfl ?_
      refine EV.if_eq (pc := 19) (tgt := 30) dX1_losesTo_19 (by decide) (fun c19 => ?_) (fun c19 => ?_)
      · replace c19 := b2i_eq c19
        refine EV.iconst (pc := 30) (v := 1) dX1_losesTo_30 (by decide) ?_
        refine EV.goto (pc := 31) (tgt := 35) dX1_losesTo_31 (by decide) ?_
        refine EV.iret (pc := 35) dX1_losesTo_35 (by rfl) ?_
        exact ⟨congrArg (fun z => some (Value.int z)) (by first | exact b2i_1 (by (try simp only [Int32.lt_iff_toInt_lt, Int32.le_iff_toInt_le, ← Int32.toInt_inj, Int64.lt_iff_toInt_lt, Int64.le_iff_toInt_le, ← Int64.toInt_inj, i_l0, i_l1, i_l2, i_l5, i_l19, i_m1, j_l0, j_l1, j_l5, Int32.toInt_toInt64] at *); first | exact absurd (c4.symm.trans c19) (by decide) | exact absurd (c19.symm.trans c4) (by decide) | (simp only [c4, true_or]; done) | (simp only [c4, reduceCtorEq, false_or]; omega)) | exact b2i_0 (by (try simp only [Int32.lt_iff_toInt_lt, Int32.le_iff_toInt_le, ← Int32.toInt_inj, Int64.lt_iff_toInt_lt, Int64.le_iff_toInt_le, ← Int64.toInt_inj, i_l0, i_l1, i_l2, i_l5, i_l19, i_m1, j_l0, j_l1, j_l5, Int32.toInt_toInt64] at *); first | exact absurd (c4.symm.trans c19) (by decide) | exact absurd (c19.symm.trans c4) (by decide) | (simp only [c4, true_or]; done) | (simp only [c4, reduceCtorEq, false_or]; omega))), rfl⟩
      · replace c19 := b2i_ne c19
        refine EV.iload_n (pc := 22) dX1_losesTo_22 rfl ?_
        refine EV.aload_n (pc := 23) dX1_losesTo_23 rfl ?_
        refine EV.getf (pc := 24) dX1_losesTo_24 fgX1_20 hq hh rfl ?_
        refine EV.icmp_le (pc := 27) (tgt := 34) dX1_losesTo_27 (by decide) (fun c27 => ?_) (fun c27 => ?_)
        · refine EV.iconst (pc := 34) (v := 0) dX1_losesTo_34 (by decide) ?_
          refine EV.iret (pc := 35) dX1_losesTo_35 (by rfl) ?_
          exact ⟨congrArg (fun z => some (Value.int z)) (by first | exact b2i_1 (by (try simp only [Int32.lt_iff_toInt_lt, Int32.le_iff_toInt_le, ← Int32.toInt_inj, Int64.lt_iff_toInt_lt, Int64.le_iff_toInt_le, ← Int64.toInt_inj, i_l0, i_l1, i_l2, i_l5, i_l19, i_m1, j_l0, j_l1, j_l5, Int32.toInt_toInt64] at *); first | exact absurd (c4.symm.trans c19) (by decide) | exact absurd (c19.symm.trans c4) (by decide) | (simp only [c4, true_or]; done) | (simp only [c4, reduceCtorEq, false_or]; omega)) | exact b2i_0 (by (try simp only [Int32.lt_iff_toInt_lt, Int32.le_iff_toInt_le, ← Int32.toInt_inj, Int64.lt_iff_toInt_lt, Int64.le_iff_toInt_le, ← Int64.toInt_inj, i_l0, i_l1, i_l2, i_l5, i_l19, i_m1, j_l0, j_l1, j_l5, Int32.toInt_toInt64] at *); first | exact absurd (c4.symm.trans c19) (by decide) | exact absurd (c19.symm.trans c4) (by decide) | (simp only [c4, true_or]; done) | (simp only [c4, reduceCtorEq, false_or]; omega))), rfl⟩
        · refine EV.iconst (pc := 30) (v := 1) dX1_losesTo_30 (by decide) ?_
          refine EV.goto (pc := 31) (tgt := 35) dX1_losesTo_31 (by decide) ?_
          refine EV.iret (pc := 35) dX1_losesTo_35 (by rfl) ?_
          exact ⟨congrArg (fun z => some (Value.int z)) (by first | exact b2i_1 (by (try simp only [Int32.lt_iff_toInt_lt, Int32.le_iff_toInt_le, ← Int32.toInt_inj, Int64.lt_iff_toInt_lt, Int64.le_iff_toInt_le, ← Int64.toInt_inj, i_l0, i_l1, i_l2, i_l5, i_l19, i_m1, j_l0, j_l1, j_l5, Int32.toInt_toInt64] at *); first | exact absurd (c4.symm.trans c19) (by decide) | exact absurd (c19.symm.trans c4) (by decide) | (simp only [c4, true_or]; done) | (simp only [c4, reduceCtorEq, false_or]; omega)) | exact b2i_0 (by (try simp only [Int32.lt_iff_toInt_lt, Int32.le_iff_toInt_le, ← Int32.toInt_inj, Int64.lt_iff_toInt_lt, Int64.le_iff_toInt_le, ← Int64.toInt_inj, i_l0, i_l1, i_l2, i_l5, i_l19, i_m1, j_l0, j_l1, j_l5, Int32.toInt_toInt64] at *); first | exact absurd (c4.symm.trans c19) (by decide) | exact absurd (c19.symm.trans c4) (by decide) | (simp only [c4, true_or]; done) | (simp only [c4, reduceCtorEq, false_or]; omega))), rfl⟩

set_option maxHeartbeats 4000000 in
set_option maxRecDepth 100000 in
theorem m_empty {G : eG} {ad : Nat → Nat} {h : Nat → va_E} (q : Nat) (r : Int32) (l f u p : Int64) (hq : q < 54) (hh : h q = .inr (3, [.int r, .long l, .long f, .long u, .long p])) : MC G M_X3_empty cX3_empty ad 54 [.ref (ad q)] h (IS none (va_up h q (.inr (3, [.int 0, .long 0, .long 0, .long 0, .long 0])))) := by
  refine MC.of (by decide +kernel) (Nat.le_of_ble_eq_true rfl) (by dsimp only [linit, Nat.reduceSub, List.reduceReplicate] <;> rfl) ?_
  refine EV.aload_n (pc := 0) dX3_empty_0 rfl ?_
  refine EV.iconst (pc := 1) (v := 0) dX3_empty_1 (by decide) ?_
  refine EV.putf (pc := 2) dX3_empty_2 fpX3_7 hq hh rfl rfl (Nat.le_of_ble_eq_true rfl) ?_
  refine EV.aload_n (pc := 5) dX3_empty_5 rfl ?_
  refine EV.lconst (pc := 6) (v := 0) dX3_empty_6 (by decide) ?_
  refine EV.putf (pc := 7) dX3_empty_7 fpX3_13 hq va_up_s rfl rfl (Nat.le_of_ble_eq_true rfl) ?_
  refine EV.aload_n (pc := 10) dX3_empty_10 rfl ?_
  refine EV.lconst (pc := 11) (v := 0) dX3_empty_11 (by decide) ?_
  refine EV.putf (pc := 12) dX3_empty_12 fpX3_17 hq va_up_s rfl rfl (Nat.le_of_ble_eq_true rfl) ?_
  refine EV.aload_n (pc := 15) dX3_empty_15 rfl ?_
  refine EV.lconst (pc := 16) (v := 0) dX3_empty_16 (by decide) ?_
  refine EV.putf (pc := 17) dX3_empty_17 fpX3_20 hq va_up_s rfl rfl (Nat.le_of_ble_eq_true rfl) ?_
  refine EV.aload_n (pc := 20) dX3_empty_20 rfl ?_
  refine EV.lconst (pc := 21) (v := 0) dX3_empty_21 (by decide) ?_
  refine EV.putf (pc := 22) dX3_empty_22 fpX3_23 hq va_up_s rfl rfl (Nat.le_of_ble_eq_true rfl) ?_
  exact EV.vret (pc := 25) dX3_empty_25 trivial ⟨rfl, by simp only [bx_uu]; rfl⟩

set_option maxHeartbeats 4000000 in
set_option maxRecDepth 100000 in
theorem m_take {G : eG} {ad : Nat → Nat} {h : Nat → va_E} (q : Nat) (r : Int32) (l f u p : Int64) (s2 f2 : Int64) (hq : q < 54) (hh : h q = .inr (3, [.int r, .long l, .long f, .long u, .long p])) : MC G M_X3_take cX3_take ad 54 [.ref (ad q), .long s2, .long f2] h (IS none (va_up h q (.inr (3, [.int (r + 1), .long (l + s2), .long (f + f2), .long (u + f2 * f2), .long (p + f2 * s2)])))) := by
  refine MC.of (by decide +kernel) (Nat.le_of_ble_eq_true rfl) (by dsimp only [linit, Nat.reduceSub, List.reduceReplicate] <;> rfl) ?_
  refine EV.aload_n (pc := 0) dX3_take_0 rfl ?_
  refine EV.dup (pc := 1) dX3_take_1 rfl ?_
  refine EV.getf (pc := 2) dX3_take_2 fgX3_7 hq hh rfl ?_
  refine EV.iconst (pc := 5) (v := 1) dX3_take_5 (by decide) ?_
  refine EV.iadd (pc := 6) dX3_take_6 ?_
  refine EV.putf (pc := 7) dX3_take_7 fpX3_7 hq hh rfl rfl (Nat.le_of_ble_eq_true rfl) ?_
  refine EV.aload_n (pc := 10) dX3_take_10 rfl ?_
  refine EV.dup (pc := 11) dX3_take_11 rfl ?_
  refine EV.getf (pc := 12) dX3_take_12 fgX3_13 hq va_up_s rfl ?_
  refine EV.lload_n (pc := 15) dX3_take_15 rfl ?_
  refine EV.ladd (pc := 16) dX3_take_16 ?_
  refine EV.putf (pc := 17) dX3_take_17 fpX3_13 hq va_up_s rfl rfl (Nat.le_of_ble_eq_true rfl) ?_
  refine EV.aload_n (pc := 20) dX3_take_20 rfl ?_
  refine EV.dup (pc := 21) dX3_take_21 rfl ?_
  refine EV.getf (pc := 22) dX3_take_22 fgX3_17 hq va_up_s rfl ?_
  refine EV.lload_n (pc := 25) dX3_take_25 rfl ?_
  refine EV.ladd (pc := 26) dX3_take_26 ?_
  refine EV.putf (pc := 27) dX3_take_27 fpX3_17 hq va_up_s rfl rfl (Nat.le_of_ble_eq_true rfl) ?_
  refine EV.aload_n (pc := 30) dX3_take_30 rfl ?_
  refine EV.dup (pc := 31) dX3_take_31 rfl ?_
  refine EV.getf (pc := 32) dX3_take_32 fgX3_20 hq va_up_s rfl ?_
  refine EV.lload_n (pc := 35) dX3_take_35 rfl ?_
  refine EV.lload_n (pc := 36) dX3_take_36 rfl ?_
  refine EV.lmul (pc := 37) dX3_take_37 ?_
  refine EV.ladd (pc := 38) dX3_take_38 ?_
  refine EV.putf (pc := 39) dX3_take_39 fpX3_20 hq va_up_s rfl rfl (Nat.le_of_ble_eq_true rfl) ?_
  refine EV.aload_n (pc := 42) dX3_take_42 rfl ?_
  refine EV.dup (pc := 43) dX3_take_43 rfl ?_
  refine EV.getf (pc := 44) dX3_take_44 fgX3_23 hq va_up_s rfl ?_
  refine EV.lload_n (pc := 47) dX3_take_47 rfl ?_
  refine EV.lload_n (pc := 48) dX3_take_48 rfl ?_
  refine EV.lmul (pc := 49) dX3_take_49 ?_
  refine EV.ladd (pc := 50) dX3_take_50 ?_
  refine EV.putf (pc := 51) dX3_take_51 fpX3_23 hq va_up_s rfl rfl (Nat.le_of_ble_eq_true rfl) ?_
  exact EV.vret (pc := 54) dX3_take_54 trivial ⟨rfl, by simp only [bx_uu]; rfl⟩

set_option maxHeartbeats 4000000 in
set_option maxRecDepth 100000 in
theorem m_quotient {G : eG} {ad : Nat → Nat} {h : Nat → va_E} (q : Nat) (r : Int32) (l f u p : Int64) (hq : q < 54) (hh : h q = .inr (3, [.int r, .long l, .long f, .long u, .long p])) : MC G M_X3_quotient cX3_quotient ad 54 [.ref (ad q)] h (IS (some (.long (if 0 < u.toInt then jI ((p * f).toInt / u.toInt) else 0))) h) := by
  refine MC.of (by decide +kernel) (Nat.le_of_ble_eq_true rfl) (by dsimp only [linit, Nat.reduceSub, List.reduceReplicate] <;> rfl) ?_
  refine EV.aload_n (pc := 0) dX3_quotient_0 rfl ?_
  refine EV.getf (pc := 1) dX3_quotient_1 fgX3_20 hq hh rfl ?_
  refine EV.lconst (pc := 4) (v := 0) dX3_quotient_4 (by decide) ?_
  refine EV.lcmp_le (pc := 5) (tgt := 28) dX3_quotient_5 dX3_quotient_6 (by decide) (fun c5 => ?_) (fun c5 => ?_)
  · refine EV.lconst (pc := 28) (v := 0) dX3_quotient_28 (by decide) ?_
    refine EV.lret (pc := 29) dX3_quotient_29 trivial ?_
    exact ⟨congrArg (fun z => some (Value.long z)) (by rw [Int64.le_iff_toInt_le, j_l0] at c5; first | (rw [if_pos (by omega)]) | (rw [if_neg (by omega)])), rfl⟩
  · refine EV.aload_n (pc := 9) dX3_quotient_9 rfl ?_
    refine EV.getf (pc := 10) dX3_quotient_10 fgX3_23 hq hh rfl ?_
    refine EV.aload_n (pc := 13) dX3_quotient_13 rfl ?_
    refine EV.getf (pc := 14) dX3_quotient_14 fgX3_17 hq hh rfl ?_
    refine EV.lmul (pc := 17) dX3_quotient_17 ?_
    refine EV.aload_n (pc := 18) dX3_quotient_18 rfl ?_
    refine EV.getf (pc := 19) dX3_quotient_19 fgX3_20 hq hh rfl ?_
    refine EV.callSR1 (pc := 22) (M' := M_J9_floorDiv_f86c9) dX3_quotient_22 lkX3_26 okS_J9_floorDiv_f86c9 (m_floorDivJ _ _ (by rw [Int64.le_iff_toInt_le, j_l0] at c5; omega)) (by decide) rfl rfl (Nat.le_of_ble_eq_true rfl) ?_
    refine EV.goto (pc := 25) (tgt := 29) dX3_quotient_25 (by decide) ?_
    refine EV.lret (pc := 29) dX3_quotient_29 trivial ?_
    exact ⟨congrArg (fun z => some (Value.long z)) (by rw [Int64.le_iff_toInt_le, j_l0] at c5; first | (rw [if_pos (by omega)]) | (rw [if_neg (by omega)])), rfl⟩

def pIn (w w2 : Nat) (x y : Int) : Prop := 0 ≤ x ∧ x < w ∧ 0 ≤ y ∧ y < w2

set_option maxHeartbeats 4000000 in
set_option maxRecDepth 100000 in
theorem m_holds {G : eG} {ad : Nat → Nat} {h : Nat → va_E} (q : Nat) (l : Int32) (la w w2 : Nat) (v : Value) (x y : Int32) (hq : q < 54) (hw : w ≤ 20) (hv : w2 ≤ 20) (hh : h q = .inr (2, [.int l, .int (nI la), .int (nI w), .int (nI w2), v])) : MC G M_X2_holds cX2_holds ad 54 [.ref (ad q), .int x, .int y] h (IS (some (.int (b2i (decide (0 ≤ x.toInt ∧ x.toInt < w ∧ 0 ≤ y.toInt ∧ y.toInt < w2))))) h) := by
  refine MC.of (by decide +kernel) (Nat.le_of_ble_eq_true rfl) (by dsimp only [linit, Nat.reduceSub, List.reduceReplicate] <;> rfl) ?_
  refine EV.iload_n (pc := 0) dX2_holds_0 rfl ?_
  refine EV.if_lt (pc := 1) (tgt := 28) dX2_holds_1 (by decide) (fun c1 => ?_) (fun c1 => ?_)
  · refine EV.iconst (pc := 28) (v := 0) dX2_holds_28 (by decide) ?_
    refine EV.iret (pc := 29) dX2_holds_29 (by rfl) ?_
    exact ⟨congrArg (fun z => some (Value.int z)) (by first | exact b2i_1 (by have e1 := nI_t (show w < 2147483648 by omega); have e2 := nI_t (show w2 < 2147483648 by omega); simp only [Int32.lt_iff_toInt_lt, Int32.le_iff_toInt_le, ← Int32.toInt_inj, Int64.lt_iff_toInt_lt, Int64.le_iff_toInt_le, ← Int64.toInt_inj, i_l0, i_l1, i_l2, i_l5, i_l19, i_m1, j_l0, j_l1, j_l5, Int32.toInt_toInt64, e1, e2] at *; omega) | exact b2i_0 (by have e1 := nI_t (show w < 2147483648 by omega); have e2 := nI_t (show w2 < 2147483648 by omega); simp only [Int32.lt_iff_toInt_lt, Int32.le_iff_toInt_le, ← Int32.toInt_inj, Int64.lt_iff_toInt_lt, Int64.le_iff_toInt_le, ← Int64.toInt_inj, i_l0, i_l1, i_l2, i_l5, i_l19, i_m1, j_l0, j_l1, j_l5, Int32.toInt_toInt64, e1, e2] at *; omega)), rfl⟩
  · refine EV.iload_n (pc := 4) dX2_holds_4 rfl ?_
    refine EV.aload_n (pc := 5) dX2_holds_5 rfl ?_
    refine EV.getf (pc := 6) dX2_holds_6 fgX2_23 hq hh rfl ?_
    refine EV.icmp_ge (pc := 9) (tgt := 28) dX2_holds_9 (by decide) (fun c9 => ?_) (fun c9 => ?_)
    · refine EV.iconst (pc := 28) (v := 0) dX2_holds_28 (by decide) ?_
      refine EV.iret (pc := 29) dX2_holds_29 (by rfl) ?_
      exact ⟨congrArg (fun z => some (Value.int z)) (by first | exact b2i_1 (by have e1 := nI_t (show w < 2147483648 by omega); have e2 := nI_t (show w2 < 2147483648 by omega); simp only [Int32.lt_iff_toInt_lt, Int32.le_iff_toInt_le, ← Int32.toInt_inj, Int64.lt_iff_toInt_lt, Int64.le_iff_toInt_le, ← Int64.toInt_inj, i_l0, i_l1, i_l2, i_l5, i_l19, i_m1, j_l0, j_l1, j_l5, Int32.toInt_toInt64, e1, e2] at *; omega) | exact b2i_0 (by have e1 := nI_t (show w < 2147483648 by omega); have e2 := nI_t (show w2 < 2147483648 by omega); simp only [Int32.lt_iff_toInt_lt, Int32.le_iff_toInt_le, ← Int32.toInt_inj, Int64.lt_iff_toInt_lt, Int64.le_iff_toInt_le, ← Int64.toInt_inj, i_l0, i_l1, i_l2, i_l5, i_l19, i_m1, j_l0, j_l1, j_l5, Int32.toInt_toInt64, e1, e2] at *; omega)), rfl⟩
    · refine EV.iload_n (pc := 12) dX2_holds_12 rfl ?_
      refine EV.if_lt (pc := 13) (tgt := 28) dX2_holds_13 (by decide) (fun c13 => ?_) (fun c13 => ?_)
      · refine EV.iconst (pc := 28) (v := 0) dX2_holds_28 (by decide) ?_
        refine EV.iret (pc := 29) dX2_holds_29 (by rfl) ?_
        exact ⟨congrArg (fun z => some (Value.int z)) (by first | exact b2i_1 (by have e1 := nI_t (show w < 2147483648 by omega); have e2 := nI_t (show w2 < 2147483648 by omega); simp only [Int32.lt_iff_toInt_lt, Int32.le_iff_toInt_le, ← Int32.toInt_inj, Int64.lt_iff_toInt_lt, Int64.le_iff_toInt_le, ← Int64.toInt_inj, i_l0, i_l1, i_l2, i_l5, i_l19, i_m1, j_l0, j_l1, j_l5, Int32.toInt_toInt64, e1, e2] at *; omega) | exact b2i_0 (by have e1 := nI_t (show w < 2147483648 by omega); have e2 := nI_t (show w2 < 2147483648 by omega); simp only [Int32.lt_iff_toInt_lt, Int32.le_iff_toInt_le, ← Int32.toInt_inj, Int64.lt_iff_toInt_lt, Int64.le_iff_toInt_le, ← Int64.toInt_inj, i_l0, i_l1, i_l2, i_l5, i_l19, i_m1, j_l0, j_l1, j_l5, Int32.toInt_toInt64, e1, e2] at *; omega)), rfl⟩
      · refine EV.iload_n (pc := 16) dX2_holds_16 rfl ?_
        refine EV.aload_n (pc := 17) dX2_holds_17 rfl ?_
        refine EV.getf (pc := 18) dX2_holds_18 fgX2_26 hq hh rfl ?_
        refine EV.icmp_ge (pc := 21) (tgt := 28) dX2_holds_21 (by decide) (fun c21 => ?_) (fun c21 => ?_)
        · refine EV.iconst (pc := 28) (v := 0) dX2_holds_28 (by decide) ?_
          refine EV.iret (pc := 29) dX2_holds_29 (by rfl) ?_
          exact ⟨congrArg (fun z => some (Value.int z)) (by first | exact b2i_1 (by have e1 := nI_t (show w < 2147483648 by omega); have e2 := nI_t (show w2 < 2147483648 by omega); simp only [Int32.lt_iff_toInt_lt, Int32.le_iff_toInt_le, ← Int32.toInt_inj, Int64.lt_iff_toInt_lt, Int64.le_iff_toInt_le, ← Int64.toInt_inj, i_l0, i_l1, i_l2, i_l5, i_l19, i_m1, j_l0, j_l1, j_l5, Int32.toInt_toInt64, e1, e2] at *; omega) | exact b2i_0 (by have e1 := nI_t (show w < 2147483648 by omega); have e2 := nI_t (show w2 < 2147483648 by omega); simp only [Int32.lt_iff_toInt_lt, Int32.le_iff_toInt_le, ← Int32.toInt_inj, Int64.lt_iff_toInt_lt, Int64.le_iff_toInt_le, ← Int64.toInt_inj, i_l0, i_l1, i_l2, i_l5, i_l19, i_m1, j_l0, j_l1, j_l5, Int32.toInt_toInt64, e1, e2] at *; omega)), rfl⟩
        · refine EV.iconst (pc := 24) (v := 1) dX2_holds_24 (by decide) ?_
          refine EV.goto (pc := 25) (tgt := 29) dX2_holds_25 (by decide) ?_
          refine EV.iret (pc := 29) dX2_holds_29 (by rfl) ?_
          exact ⟨congrArg (fun z => some (Value.int z)) (by first | exact b2i_1 (by have e1 := nI_t (show w < 2147483648 by omega); have e2 := nI_t (show w2 < 2147483648 by omega); simp only [Int32.lt_iff_toInt_lt, Int32.le_iff_toInt_le, ← Int32.toInt_inj, Int64.lt_iff_toInt_lt, Int64.le_iff_toInt_le, ← Int64.toInt_inj, i_l0, i_l1, i_l2, i_l5, i_l19, i_m1, j_l0, j_l1, j_l5, Int32.toInt_toInt64, e1, e2] at *; omega) | exact b2i_0 (by have e1 := nI_t (show w < 2147483648 by omega); have e2 := nI_t (show w2 < 2147483648 by omega); simp only [Int32.lt_iff_toInt_lt, Int32.le_iff_toInt_le, ← Int32.toInt_inj, Int64.lt_iff_toInt_lt, Int64.le_iff_toInt_le, ← Int64.toInt_inj, i_l0, i_l1, i_l2, i_l5, i_l19, i_m1, j_l0, j_l1, j_l5, Int32.toInt_toInt64, e1, e2] at *; omega)), rfl⟩

def pAt (f : Nat → Int32) (w w2 : Nat) (x y : Int) : Int32 := if 0 ≤ x ∧ x < w ∧ 0 ≤ y ∧ y < w2 then f (y.toNat * 20 + x.toNat) else 0
theorem p_ix {x y : Int32} {w w2 : Nat} (hw : w ≤ 20) (hv : w2 ≤ 20) (hi : 0 ≤ x.toInt ∧ x.toInt < w ∧ 0 ≤ y.toInt ∧ y.toInt < w2) : vp_in (y * 20 + x) 400 ∧ (y * 20 + x).toNatClampNeg = y.toInt.toNat * 20 + x.toInt.toNat := by
  obtain ⟨a, rfl, ea, la⟩ := i_nat hi.1
  obtain ⟨b, rfl, eb, lb⟩ := i_nat hi.2.2.1
  rw [ea, eb] at hi
  rw [nI_at, ea, eb]
  exact ⟨vp_in_nI (by omega) (by omega), nI_clamp (by omega)⟩

set_option maxHeartbeats 4000000 in
set_option maxRecDepth 100000 in
theorem m_pat {G : eG} {ad : Nat → Nat} {h : Nat → va_E} (q r : Nat) (l : Int32) (la w w2 : Nat) (f : Nat → Int32) (x y : Int32) (hq : q < 54) (hr : r < 54) (hw : w ≤ 20) (hv : w2 ≤ 20) (hh : h q = .inr (2, [.int l, .int (nI la), .int (nI w), .int (nI w2), .ref (ad r)])) (hc : h r = .inl (G.2.2 0, 400, .inl f)) : MC G M_X2_at cX2_at ad 54 [.ref (ad q), .int x, .int y] h (IS (some (.int (pAt f w w2 x.toInt y.toInt))) h) := by
  refine MC.of (by decide +kernel) (Nat.le_of_ble_eq_true rfl) (by dsimp only [linit, Nat.reduceSub, List.reduceReplicate] <;> rfl) ?_
  refine EV.aload_n (pc := 0) dX2_at_0 rfl ?_
  refine EV.iload_n (pc := 1) dX2_at_1 rfl ?_
  refine EV.iload_n (pc := 2) dX2_at_2 rfl ?_
  refine EV.callVR1 (pc := 3) (M' := M_X2_holds) dX2_at_3 lkX2_35 okV_X2_holds (m_holds q l la w w2 _ _ _ hq hw hv hh) (by decide) rfl rfl (Nat.le_of_ble_eq_true rfl) hq hh ?_
  refine EV.if_eq (pc := 6) (tgt := 23) dX2_at_6 (by decide) (fun c6 => ?_) (fun c6 => ?_)
  · replace c6 := b2i_F c6
    refine EV.iconst (pc := 23) (v := 0) dX2_at_23 (by decide) ?_
    refine EV.iret (pc := 24) dX2_at_24 trivial ?_
    exact ⟨congrArg (fun z => some (Value.int z)) (by unfold pAt; first | (rw [if_pos c6, (p_ix hw hv c6).2]) | (rw [if_neg c6])), rfl⟩
  · replace c6 := b2i_T c6
    refine EV.aload_n (pc := 9) dX2_at_9 rfl ?_
    refine EV.getf (pc := 10) dX2_at_10 fgX2_15 hq hh rfl ?_
    refine EV.iload_n (pc := 13) dX2_at_13 rfl ?_
    refine EV.bipush (pc := 14) (v := 20) dX2_at_14 (by decide) ?_
    refine EV.imul (pc := 16) dX2_at_16 ?_
    refine EV.iload_n (pc := 17) dX2_at_17 rfl ?_
    refine EV.iadd (pc := 18) dX2_at_18 ?_
    refine EV.iald (pc := 19) dX2_at_19 hr hc (p_ix hw hv c6).1 ?_
    refine EV.goto (pc := 20) (tgt := 24) dX2_at_20 (by decide) ?_
    refine EV.iret (pc := 24) dX2_at_24 trivial ?_
    exact ⟨congrArg (fun z => some (Value.int z)) (by unfold pAt; first | (rw [if_pos c6, (p_ix hw hv c6).2]) | (rw [if_neg c6])), rfl⟩

set_option maxHeartbeats 4000000 in
set_option maxRecDepth 100000 in
theorem m_pset {G : eG} {ad : Nat → Nat} {h : Nat → va_E} (q r : Nat) (l : Int32) (la w w2 : Nat) (f : Nat → Int32) (x y v : Int32) (hq : q < 54) (hr : r < 54) (hw : w ≤ 20) (hv : w2 ≤ 20) (hh : h q = .inr (2, [.int l, .int (nI la), .int (nI w), .int (nI w2), .ref (ad r)])) (hc : h r = .inl (G.2.2 0, 400, .inl f)) (hi : 0 ≤ x.toInt ∧ x.toInt < w ∧ 0 ≤ y.toInt ∧ y.toInt < w2) : MC G M_X2_set cX2_set ad 54 [.ref (ad q), .int x, .int y, .int v] h (IS none (va_up h r (.inl (G.2.2 0, 400, .inl (upd f (y.toInt.toNat * 20 + x.toInt.toNat) (iCast v (nI la))))))) := by
  refine MC.of (by decide +kernel) (Nat.le_of_ble_eq_true rfl) (by dsimp only [linit, Nat.reduceSub, List.reduceReplicate] <;> rfl) ?_
  refine EV.aload_n (pc := 0) dX2_set_0 rfl ?_
  refine EV.iload_n (pc := 1) dX2_set_1 rfl ?_
  refine EV.iload_n (pc := 2) dX2_set_2 rfl ?_
  refine EV.callVR1 (pc := 3) (M' := M_X2_holds) dX2_set_3 lkX2_35 okV_X2_holds (m_holds q l la w w2 _ _ _ hq hw hv hh) (by decide) rfl rfl (Nat.le_of_ble_eq_true rfl) hq hh ?_
  refine EV.if_eq (pc := 6) (tgt := 28) dX2_set_6 (by decide) (fun q => absurd q (fun z => b2i_F z hi)) (fun _ => ?_)
  refine EV.aload_n (pc := 9) dX2_set_9 rfl ?_
  refine EV.getf (pc := 10) dX2_set_10 fgX2_15 hq hh rfl ?_
  refine EV.iload_n (pc := 13) dX2_set_13 rfl ?_
  refine EV.bipush (pc := 14) (v := 20) dX2_set_14 (by decide) ?_
  refine EV.imul (pc := 16) dX2_set_16 ?_
  refine EV.iload_n (pc := 17) dX2_set_17 rfl ?_
  refine EV.iadd (pc := 18) dX2_set_18 ?_
  refine EV.iload_n (pc := 19) dX2_set_19 rfl ?_
  refine EV.aload_n (pc := 20) dX2_set_20 rfl ?_
  refine EV.getf (pc := 21) dX2_set_21 fgX2_19 hq hh rfl ?_
  refine EV.callSN (pc := 24) (M' := M_X4_castToLane) dX2_set_24 nkX2_39 okS_X4_castToLane (m_castToLane _ _) (by decide) rfl rfl (Nat.le_of_ble_eq_true rfl) ?_
  refine EV.iast (pc := 27) dX2_set_27 hr hc (p_ix hw hv hi).1 ?_
  exact EV.vret (pc := 28) dX2_set_28 trivial ⟨rfl, by rw [(p_ix hw hv hi).2]⟩

theorem l_light (v : Int32) : (if (0 : Int32).toInt < (if v.toInt < (100000 : Int32).toInt then v else 100000 : Int32).toInt then (if v.toInt < (100000 : Int32).toInt then v else 100000 : Int32) else 0).toInt64 = jI (lBnd v) := by
  have e : (100000 : Int32).toInt = 100000 := by decide +kernel
  rw [i_l, i_l0, e]
  unfold lBnd
  by_cases h1 : v.toInt < 100000
  · rw [if_pos h1]
    by_cases h2 : 0 < v.toInt
    · rw [if_pos h2, if_neg (by omega), if_neg (by omega)]
    · rw [if_neg h2, i_l0]
      by_cases h3 : v.toInt < 0
      · rw [if_pos h3]
      · rw [if_neg h3, if_neg (by omega)]; congr 1; omega
  · rw [if_neg h1, if_pos (by rw [e]; decide), e, if_neg (by omega)]
    by_cases h4 : 100000 < v.toInt
    · rw [if_pos h4]
    · rw [if_neg h4]; congr 1; omega

set_option maxHeartbeats 4000000 in
set_option maxRecDepth 100000 in
theorem m_plight {G : eG} {ad : Nat → Nat} {h : Nat → va_E} (q r : Nat) (l : Int32) (la w w2 : Nat) (f : Nat → Int32) (x y : Int32) (hq : q < 54) (hr : r < 54) (hw : w ≤ 20) (hv : w2 ≤ 20) (hh : h q = .inr (2, [.int l, .int (nI la), .int (nI w), .int (nI w2), .ref (ad r)])) (hc : h r = .inl (G.2.2 0, 400, .inl f)) : MC G M_X2_lightAt cX2_lightAt ad 54 [.ref (ad q), .int x, .int y] h (IS (some (.long (jI (lBnd (pAt f w w2 x.toInt y.toInt))))) h) := by
  refine MC.of (by decide +kernel) (Nat.le_of_ble_eq_true rfl) (by dsimp only [linit, Nat.reduceSub, List.reduceReplicate] <;> rfl) ?_
  refine EV.iconst (pc := 0) (v := 0) dX2_lightAt_0 (by decide) ?_
  refine EV.ldc (pc := 1) dX2_lightAt_1 kcX2_43 ?_
  refine EV.aload_n (pc := 3) dX2_lightAt_3 rfl ?_
  refine EV.iload_n (pc := 4) dX2_lightAt_4 rfl ?_
  refine EV.iload_n (pc := 5) dX2_lightAt_5 rfl ?_
  refine EV.callVR1 (pc := 6) (M' := M_X2_at) dX2_lightAt_6 lkX2_44 okV_X2_at (m_pat q r l la w w2 f _ _ hq hr hw hv hh hc) (by decide) rfl rfl (Nat.le_of_ble_eq_true rfl) hq hh ?_
  refine EV.callSR1 (pc := 9) (M' := M_J9_min_7cf53) dX2_lightAt_9 lkX2_47 okS_J9_min_7cf53 (m_min _ _) (by decide) rfl rfl (Nat.le_of_ble_eq_true rfl) ?_
  refine EV.callSR1 (pc := 12) (M' := M_J9_max_7cf53) dX2_lightAt_12 lkX2_52 okS_J9_max_7cf53 (m_max _ _) (by decide) rfl rfl (Nat.le_of_ble_eq_true rfl) ?_
  refine EV.i2l (pc := 15) dX2_lightAt_15 ?_
  refine EV.lret (pc := 16) dX2_lightAt_16 trivial ?_
  exact ⟨congrArg (fun z => some (Value.long z)) (by exact l_light _), rfl⟩

set_option maxHeartbeats 4000000 in
set_option maxRecDepth 100000 in
theorem m_alike {G : eG} {ad : Nat → Nat} {h : Nat → va_E} (q q2 : Nat) (l l2 : Int32) (la w w2 la2 u u2 : Nat) (v v2 : Value) (hq : q < 54) (hq2 : q2 < 54) (hw : w ≤ 20) (hv : w2 ≤ 20) (hu : u ≤ 20) (hu2 : u2 ≤ 20) (hh : h q = .inr (2, [.int l, .int (nI la), .int (nI w), .int (nI w2), v])) (hh2 : h q2 = .inr (2, [.int l2, .int (nI la2), .int (nI u), .int (nI u2), v2])) : MC G M_X2_alike cX2_alike ad 54 [.ref (ad q), .ref (ad q2)] h (IS (some (.int (b2i (decide (w = u ∧ w2 = u2))))) h) := by
  refine MC.of (by decide +kernel) (Nat.le_of_ble_eq_true rfl) (by dsimp only [linit, Nat.reduceSub, List.reduceReplicate] <;> rfl) ?_
  refine EV.aload_n (pc := 0) dX2_alike_0 rfl ?_
  refine EV.getf (pc := 1) dX2_alike_1 fgX2_23 hq hh rfl ?_
  refine EV.aload_n (pc := 4) dX2_alike_4 rfl ?_
  refine EV.getf (pc := 5) dX2_alike_5 fgX2_23 hq2 hh2 rfl ?_
  refine EV.icmp_ne (pc := 8) (tgt := 26) dX2_alike_8 (by decide) (fun c8 => ?_) (fun c8 => ?_)
  · refine EV.iconst (pc := 26) (v := 0) dX2_alike_26 (by decide) ?_
    refine EV.iret (pc := 27) dX2_alike_27 (by rfl) ?_
    exact ⟨congrArg (fun z => some (Value.int z)) (by first | exact b2i_1 (by have e1 := nI_t (show w < 2147483648 by omega); have e2 := nI_t (show w2 < 2147483648 by omega); have e3 := nI_t (show u < 2147483648 by omega); have e4 := nI_t (show u2 < 2147483648 by omega); simp only [Int32.lt_iff_toInt_lt, Int32.le_iff_toInt_le, ← Int32.toInt_inj, Int64.lt_iff_toInt_lt, Int64.le_iff_toInt_le, ← Int64.toInt_inj, i_l0, i_l1, i_l2, i_l5, i_l19, i_m1, j_l0, j_l1, j_l5, Int32.toInt_toInt64, e1, e2, e3, e4] at *; omega) | exact b2i_0 (by have e1 := nI_t (show w < 2147483648 by omega); have e2 := nI_t (show w2 < 2147483648 by omega); have e3 := nI_t (show u < 2147483648 by omega); have e4 := nI_t (show u2 < 2147483648 by omega); simp only [Int32.lt_iff_toInt_lt, Int32.le_iff_toInt_le, ← Int32.toInt_inj, Int64.lt_iff_toInt_lt, Int64.le_iff_toInt_le, ← Int64.toInt_inj, i_l0, i_l1, i_l2, i_l5, i_l19, i_m1, j_l0, j_l1, j_l5, Int32.toInt_toInt64, e1, e2, e3, e4] at *; omega)), rfl⟩
  · refine EV.aload_n (pc := 11) dX2_alike_11 rfl ?_
    refine EV.getf (pc := 12) dX2_alike_12 fgX2_26 hq hh rfl ?_
    refine EV.aload_n (pc := 15) dX2_alike_15 rfl ?_
    refine EV.getf (pc := 16) dX2_alike_16 fgX2_26 hq2 hh2 rfl ?_
    refine EV.icmp_ne (pc := 19) (tgt := 26) dX2_alike_19 (by decide) (fun c19 => ?_) (fun c19 => ?_)
    · refine EV.iconst (pc := 26) (v := 0) dX2_alike_26 (by decide) ?_
      refine EV.iret (pc := 27) dX2_alike_27 (by rfl) ?_
      exact ⟨congrArg (fun z => some (Value.int z)) (by first | exact b2i_1 (by have e1 := nI_t (show w < 2147483648 by omega); have e2 := nI_t (show w2 < 2147483648 by omega); have e3 := nI_t (show u < 2147483648 by omega); have e4 := nI_t (show u2 < 2147483648 by omega); simp only [Int32.lt_iff_toInt_lt, Int32.le_iff_toInt_le, ← Int32.toInt_inj, Int64.lt_iff_toInt_lt, Int64.le_iff_toInt_le, ← Int64.toInt_inj, i_l0, i_l1, i_l2, i_l5, i_l19, i_m1, j_l0, j_l1, j_l5, Int32.toInt_toInt64, e1, e2, e3, e4] at *; omega) | exact b2i_0 (by have e1 := nI_t (show w < 2147483648 by omega); have e2 := nI_t (show w2 < 2147483648 by omega); have e3 := nI_t (show u < 2147483648 by omega); have e4 := nI_t (show u2 < 2147483648 by omega); simp only [Int32.lt_iff_toInt_lt, Int32.le_iff_toInt_le, ← Int32.toInt_inj, Int64.lt_iff_toInt_lt, Int64.le_iff_toInt_le, ← Int64.toInt_inj, i_l0, i_l1, i_l2, i_l5, i_l19, i_m1, j_l0, j_l1, j_l5, Int32.toInt_toInt64, e1, e2, e3, e4] at *; omega)), rfl⟩
    · refine EV.iconst (pc := 22) (v := 1) dX2_alike_22 (by decide) ?_
      refine EV.goto (pc := 23) (tgt := 27) dX2_alike_23 (by decide) ?_
      refine EV.iret (pc := 27) dX2_alike_27 (by rfl) ?_
      exact ⟨congrArg (fun z => some (Value.int z)) (by first | exact b2i_1 (by have e1 := nI_t (show w < 2147483648 by omega); have e2 := nI_t (show w2 < 2147483648 by omega); have e3 := nI_t (show u < 2147483648 by omega); have e4 := nI_t (show u2 < 2147483648 by omega); simp only [Int32.lt_iff_toInt_lt, Int32.le_iff_toInt_le, ← Int32.toInt_inj, Int64.lt_iff_toInt_lt, Int64.le_iff_toInt_le, ← Int64.toInt_inj, i_l0, i_l1, i_l2, i_l5, i_l19, i_m1, j_l0, j_l1, j_l5, Int32.toInt_toInt64, e1, e2, e3, e4] at *; omega) | exact b2i_0 (by have e1 := nI_t (show w < 2147483648 by omega); have e2 := nI_t (show w2 < 2147483648 by omega); have e3 := nI_t (show u < 2147483648 by omega); have e4 := nI_t (show u2 < 2147483648 by omega); simp only [Int32.lt_iff_toInt_lt, Int32.le_iff_toInt_le, ← Int32.toInt_inj, Int64.lt_iff_toInt_lt, Int64.le_iff_toInt_le, ← Int64.toInt_inj, i_l0, i_l1, i_l2, i_l5, i_l19, i_m1, j_l0, j_l1, j_l5, Int32.toInt_toInt64, e1, e2, e3, e4] at *; omega)), rfl⟩

def fz (f : Nat → Int32) (i : Nat) : Nat → Int32 := fun k => if k < i then 0 else f k
theorem fz_s (f : Nat → Int32) (i : Nat) : upd (fz f i) i 0 = fz f (i + 1) := by
  funext k
  simp only [upd, fz]
  by_cases h1 : k = i
  · subst h1; simp
  · by_cases h2 : k < i
    · rw [if_neg h1, if_pos h2, if_pos (by omega)]
    · rw [if_neg h1, if_neg h2, if_neg (by omega)]

set_option maxHeartbeats 4000000 in
set_option maxRecDepth 100000 in
theorem m_fill_loop {G : eG} {ad : Nat → Nat} {h : Nat → va_E} (r : Nat) (f : Nat → Int32) (hr : r < 54) (hc : h r = .inl (G.2.2 0, 400, .inl f)) : ∀ (n i : Nat), i + n = 400 → EV G M_J7_fill_53178 cJ7_fill_53178 none ad 54 (IS none (va_up h r (.inl (G.2.2 0, 400, .inl (fz f 400))))) 5 [some (.ref (ad r)), some (.int 0), some (.int (nI i)), some (.int 400)] [] (va_up h r (.inl (G.2.2 0, 400, .inl (fz f i)))) := by
  intro n
  induction n with
  | zero =>
    intro i hi
    have e : i = 400 := by omega
    subst e
    refine EV.iload_n (pc := 5) dJ7_fill_53178_5 rfl ?_
    refine EV.iload_n (pc := 6) dJ7_fill_53178_6 rfl ?_
    refine EV.icmp_ge (pc := 7) (tgt := 20) dJ7_fill_53178_7 (by decide) (fun _ => ?_) (fun q => absurd (by decide) q)
    exact EV.vret (pc := 20) dJ7_fill_53178_20 trivial ⟨rfl, rfl⟩
  | succ n ih =>
    intro i hi
    refine EV.iload_n (pc := 5) dJ7_fill_53178_5 rfl ?_
    refine EV.iload_n (pc := 6) dJ7_fill_53178_6 rfl ?_
    refine EV.icmp_ge (pc := 7) (tgt := 20) dJ7_fill_53178_7 (by decide) (fun q => absurd q (by rw [show (400 : Int32) = nI 400 from rfl]; exact fun z => absurd ((nI_leI (by omega) (by omega)).mp z) (by omega))) (fun _ => ?_)
    refine EV.aload_n (pc := 10) dJ7_fill_53178_10 rfl ?_
    refine EV.iload_n (pc := 11) dJ7_fill_53178_11 rfl ?_
    refine EV.iload_n (pc := 12) dJ7_fill_53178_12 rfl ?_
    refine EV.iast (pc := 13) dJ7_fill_53178_13 hr va_up_s (vp_in_nI (by omega) (by omega)) ?_
    rw [bx_uu, nI_clamp (by omega), fz_s]
    refine EV.iinc (pc := 14) dJ7_fill_53178_14 (by decide) rfl (by first | exact nI_inc _ | rfl) (by dsimp only [lst1, lk] <;> rfl) ?_
    refine EV.goto (pc := 17) (tgt := 5) dJ7_fill_53178_17 (by decide) ?_
    exact ih (i + 1) (by omega)

set_option maxHeartbeats 4000000 in
set_option maxRecDepth 100000 in
theorem m_fill {G : eG} {ad : Nat → Nat} {h : Nat → va_E} (r : Nat) (f : Nat → Int32) (hr : r < 54) (hc : h r = .inl (G.2.2 0, 400, .inl f)) : MC G M_J7_fill_53178 cJ7_fill_53178 ad 54 [.ref (ad r), .int 0] h (IS none (va_up h r (.inl (G.2.2 0, 400, .inl (fz f 400))))) := by
  refine MC.of (by decide +kernel) (Nat.le_of_ble_eq_true rfl) (by dsimp only [linit, Nat.reduceSub, List.reduceReplicate] <;> rfl) ?_
  refine EV.iconst (pc := 0) (v := 0) dJ7_fill_53178_0 (by decide) ?_
  refine EV.istore_n (pc := 1) 2 dJ7_fill_53178_1 rfl (by decide) (by dsimp only [lst1, lk] <;> rfl) ?_
  refine EV.aload_n (pc := 2) dJ7_fill_53178_2 rfl ?_
  refine EV.alen (pc := 3) (t0 := 0) dJ7_fill_53178_3 rfl hr hc (v := 400) rfl ?_
  refine EV.istore_n (pc := 4) 3 dJ7_fill_53178_4 rfl (by decide) (by dsimp only [lst1, lk] <;> rfl) ?_
  refine EV.heap (h' := va_up h r (.inl (G.2.2 0, 400, .inl (fz f 0)))) ?_ (m_fill_loop r f hr hc 400 0 rfl)
  funext k
  by_cases e : k = r
  · subst e; rw [va_up_s, hc]; congr 4
  · rw [va_up_n e]

set_option maxHeartbeats 4000000 in
set_option maxRecDepth 100000 in
theorem m_renew {G : eG} {ad : Nat → Nat} {h : Nat → va_E} (q r : Nat) (l a1 a2 a3 : Int32) (f : Nat → Int32) (b1 b2 b3 : Int32) (hq : q < 54) (hr : r < 54) (hqr : q ≠ r) (hh : h q = .inr (2, [.int l, .int a1, .int a2, .int a3, .ref (ad r)])) (hc : h r = .inl (G.2.2 0, 400, .inl f)) : MC G M_X2_renew cX2_renew ad 54 [.ref (ad q), .int b1, .int b2, .int b3] h (IS none (va_up (va_up h q (.inr (2, [.int 0, .int b1, .int b2, .int b3, .ref (ad r)]))) r (.inl (G.2.2 0, 400, .inl (fz f 400))))) := by
  refine MC.of (by decide +kernel) (Nat.le_of_ble_eq_true rfl) (by dsimp only [linit, Nat.reduceSub, List.reduceReplicate] <;> rfl) ?_
  refine EV.aload_n (pc := 0) dX2_renew_0 rfl ?_
  refine EV.iconst (pc := 1) (v := 0) dX2_renew_1 (by decide) ?_
  refine EV.putf (pc := 2) dX2_renew_2 fpX2_9 hq hh rfl rfl (Nat.le_of_ble_eq_true rfl) ?_
  refine EV.aload_n (pc := 5) dX2_renew_5 rfl ?_
  refine EV.iload_n (pc := 6) dX2_renew_6 rfl ?_
  refine EV.putf (pc := 7) dX2_renew_7 fpX2_19 hq va_up_s rfl rfl (Nat.le_of_ble_eq_true rfl) ?_
  refine EV.aload_n (pc := 10) dX2_renew_10 rfl ?_
  refine EV.iload_n (pc := 11) dX2_renew_11 rfl ?_
  refine EV.putf (pc := 12) dX2_renew_12 fpX2_23 hq va_up_s rfl rfl (Nat.le_of_ble_eq_true rfl) ?_
  refine EV.aload_n (pc := 15) dX2_renew_15 rfl ?_
  refine EV.iload_n (pc := 16) dX2_renew_16 rfl ?_
  refine EV.putf (pc := 17) dX2_renew_17 fpX2_26 hq va_up_s rfl rfl (Nat.le_of_ble_eq_true rfl) ?_
  refine EV.aload_n (pc := 20) dX2_renew_20 rfl ?_
  refine EV.getf (pc := 21) dX2_renew_21 fgX2_15 hq va_up_s rfl ?_
  refine EV.iconst (pc := 24) (v := 0) dX2_renew_24 (by decide) ?_
  refine EV.callSR0 (pc := 25) (M' := M_J7_fill_53178) dX2_renew_25 lkX2_29 okS_J7_fill_53178 (m_fill r f hr ((va_up_n (Ne.symm hqr)).trans ((va_up_n (Ne.symm hqr)).trans ((va_up_n (Ne.symm hqr)).trans ((va_up_n (Ne.symm hqr)).trans hc))))) (by decide) rfl rfl (Nat.le_of_ble_eq_true rfl) ?_
  exact EV.vret (pc := 28) dX2_renew_28 trivial ⟨rfl, by simp only [bx_uu]; rfl⟩
end
section
def nAt (f : Nat → Nat) (co : Nat) (x : Int) : Nat := if 0 ≤ x ∧ x < co then f x.toNat else 0
theorem nAt_in {f : Nat → Nat} {co k : Nat} (h : k < co) : nAt f co (k : Int) = f k := by
  unfold nAt
  rw [if_pos ⟨by omega, by omega⟩]
  rfl
theorem lN_lt' {a b : Nat} (ha : a < 9223372036854775808) (hb : b < 9223372036854775808) : lN a < lN b ↔ a < b := by rw [Int64.lt_iff_toInt_lt, lN_t ha, lN_t hb]; omega
theorem lN_le' {a b : Nat} (ha : a < 9223372036854775808) (hb : b < 9223372036854775808) : lN a ≤ lN b ↔ a ≤ b := by rw [Int64.le_iff_toInt_le, lN_t ha, lN_t hb]; omega
theorem nI_p1 (k : Nat) : nI k + 1 = nI (k + 1) := nI_1 k
theorem nI_m1 {k : Nat} (h : 1 ≤ k) : nI k - 1 = nI (k - 1) := by rw [show (1 : Int32) = nI 1 from rfl, pk_sub h]

set_option maxHeartbeats 4000000 in
set_option maxRecDepth 100000 in
theorem m_has {G : eG} {ad : Nat → Nat} {h : Nat → va_E} (q nq lq : Nat) (a b r co : Nat) (f : Nat → Nat) (x : Int32) (hq : q < 54) (hnq : nq < 54) (hco : co ≤ 20) (hh : h q = .inr (0, [.int (nI a), .int (nI b), .int (nI r), .int (nI co), .ref (ad nq), .ref (ad lq)])) (hn : h nq = .inl (G.2.2 1, 20, .inr (.inl (fun x => lN (f x))))) : MC G M_X0_has cX0_has ad 54 [.ref (ad q), .int x] h (IS (some (.int (b2i (decide (0 ≤ x.toInt ∧ x.toInt < co))))) h) := by
  refine MC.of (by decide +kernel) (Nat.le_of_ble_eq_true rfl) (by dsimp only [linit, Nat.reduceSub, List.reduceReplicate] <;> rfl) ?_
  refine EV.iload_n (pc := 0) dX0_has_0 rfl ?_
  refine EV.if_lt (pc := 1) (tgt := 25) dX0_has_1 (by decide) (fun c1 => ?_) (fun c1 => ?_)
  · refine EV.iconst (pc := 25) (v := 0) dX0_has_25 (by decide) ?_
    refine EV.iret (pc := 26) dX0_has_26 (by rfl) ?_
    exact ⟨congrArg (fun z => some (Value.int z)) (by first | exact b2i_1 (by have e1 := nI_t (show co < 2147483648 by omega); have e2 : (20 : Int32).toInt = 20 := (by decide +kernel); simp only [Int32.lt_iff_toInt_lt, Int32.le_iff_toInt_le, ← Int32.toInt_inj, Int64.lt_iff_toInt_lt, Int64.le_iff_toInt_le, ← Int64.toInt_inj, i_l0, i_l1, i_l2, i_l5, i_l19, i_m1, j_l0, j_l1, j_l5, Int32.toInt_toInt64, e1, e2] at *; omega) | exact b2i_0 (by have e1 := nI_t (show co < 2147483648 by omega); have e2 : (20 : Int32).toInt = 20 := (by decide +kernel); simp only [Int32.lt_iff_toInt_lt, Int32.le_iff_toInt_le, ← Int32.toInt_inj, Int64.lt_iff_toInt_lt, Int64.le_iff_toInt_le, ← Int64.toInt_inj, i_l0, i_l1, i_l2, i_l5, i_l19, i_m1, j_l0, j_l1, j_l5, Int32.toInt_toInt64, e1, e2] at *; omega)), rfl⟩
  · refine EV.iload_n (pc := 4) dX0_has_4 rfl ?_
    refine EV.aload_n (pc := 5) dX0_has_5 rfl ?_
    refine EV.getf (pc := 6) dX0_has_6 fgX0_55 hq hh rfl ?_
    refine EV.icmp_ge (pc := 9) (tgt := 25) dX0_has_9 (by decide) (fun c9 => ?_) (fun c9 => ?_)
    · refine EV.iconst (pc := 25) (v := 0) dX0_has_25 (by decide) ?_
      refine EV.iret (pc := 26) dX0_has_26 (by rfl) ?_
      exact ⟨congrArg (fun z => some (Value.int z)) (by first | exact b2i_1 (by have e1 := nI_t (show co < 2147483648 by omega); have e2 : (20 : Int32).toInt = 20 := (by decide +kernel); simp only [Int32.lt_iff_toInt_lt, Int32.le_iff_toInt_le, ← Int32.toInt_inj, Int64.lt_iff_toInt_lt, Int64.le_iff_toInt_le, ← Int64.toInt_inj, i_l0, i_l1, i_l2, i_l5, i_l19, i_m1, j_l0, j_l1, j_l5, Int32.toInt_toInt64, e1, e2] at *; omega) | exact b2i_0 (by have e1 := nI_t (show co < 2147483648 by omega); have e2 : (20 : Int32).toInt = 20 := (by decide +kernel); simp only [Int32.lt_iff_toInt_lt, Int32.le_iff_toInt_le, ← Int32.toInt_inj, Int64.lt_iff_toInt_lt, Int64.le_iff_toInt_le, ← Int64.toInt_inj, i_l0, i_l1, i_l2, i_l5, i_l19, i_m1, j_l0, j_l1, j_l5, Int32.toInt_toInt64, e1, e2] at *; omega)), rfl⟩
    · refine EV.iload_n (pc := 12) dX0_has_12 rfl ?_
      refine EV.aload_n (pc := 13) dX0_has_13 rfl ?_
      refine EV.getf (pc := 14) dX0_has_14 fgX0_9 hq hh rfl ?_
      refine EV.alen (pc := 17) (t0 := 1) dX0_has_17 rfl hnq hn (v := 20) rfl ?_
      refine EV.icmp_ge (pc := 18) (tgt := 25) dX0_has_18 (by decide) (fun c18 => ?_) (fun c18 => ?_)
      · refine EV.iconst (pc := 25) (v := 0) dX0_has_25 (by decide) ?_
        refine EV.iret (pc := 26) dX0_has_26 (by rfl) ?_
        exact ⟨congrArg (fun z => some (Value.int z)) (by first | exact b2i_1 (by have e1 := nI_t (show co < 2147483648 by omega); have e2 : (20 : Int32).toInt = 20 := (by decide +kernel); simp only [Int32.lt_iff_toInt_lt, Int32.le_iff_toInt_le, ← Int32.toInt_inj, Int64.lt_iff_toInt_lt, Int64.le_iff_toInt_le, ← Int64.toInt_inj, i_l0, i_l1, i_l2, i_l5, i_l19, i_m1, j_l0, j_l1, j_l5, Int32.toInt_toInt64, e1, e2] at *; omega) | exact b2i_0 (by have e1 := nI_t (show co < 2147483648 by omega); have e2 : (20 : Int32).toInt = 20 := (by decide +kernel); simp only [Int32.lt_iff_toInt_lt, Int32.le_iff_toInt_le, ← Int32.toInt_inj, Int64.lt_iff_toInt_lt, Int64.le_iff_toInt_le, ← Int64.toInt_inj, i_l0, i_l1, i_l2, i_l5, i_l19, i_m1, j_l0, j_l1, j_l5, Int32.toInt_toInt64, e1, e2] at *; omega)), rfl⟩
      · refine EV.iconst (pc := 21) (v := 1) dX0_has_21 (by decide) ?_
        refine EV.goto (pc := 22) (tgt := 26) dX0_has_22 (by decide) ?_
        refine EV.iret (pc := 26) dX0_has_26 (by rfl) ?_
        exact ⟨congrArg (fun z => some (Value.int z)) (by first | exact b2i_1 (by have e1 := nI_t (show co < 2147483648 by omega); have e2 : (20 : Int32).toInt = 20 := (by decide +kernel); simp only [Int32.lt_iff_toInt_lt, Int32.le_iff_toInt_le, ← Int32.toInt_inj, Int64.lt_iff_toInt_lt, Int64.le_iff_toInt_le, ← Int64.toInt_inj, i_l0, i_l1, i_l2, i_l5, i_l19, i_m1, j_l0, j_l1, j_l5, Int32.toInt_toInt64, e1, e2] at *; omega) | exact b2i_0 (by have e1 := nI_t (show co < 2147483648 by omega); have e2 : (20 : Int32).toInt = 20 := (by decide +kernel); simp only [Int32.lt_iff_toInt_lt, Int32.le_iff_toInt_le, ← Int32.toInt_inj, Int64.lt_iff_toInt_lt, Int64.le_iff_toInt_le, ← Int64.toInt_inj, i_l0, i_l1, i_l2, i_l5, i_l19, i_m1, j_l0, j_l1, j_l5, Int32.toInt_toInt64, e1, e2] at *; omega)), rfl⟩

set_option maxHeartbeats 4000000 in
set_option maxRecDepth 100000 in
theorem m_kat {G : eG} {ad : Nat → Nat} {h : Nat → va_E} (q nq lq : Nat) (a b r co : Nat) (f : Nat → Nat) (x : Int32) (hq : q < 54) (hnq : nq < 54) (hco : co ≤ 20) (hh : h q = .inr (0, [.int (nI a), .int (nI b), .int (nI r), .int (nI co), .ref (ad nq), .ref (ad lq)])) (hn : h nq = .inl (G.2.2 1, 20, .inr (.inl (fun x => lN (f x))))) : MC G M_X0_at cX0_at ad 54 [.ref (ad q), .int x] h (IS (some (.long (lN (nAt f co x.toInt)))) h) := by
  refine MC.of (by decide +kernel) (Nat.le_of_ble_eq_true rfl) (by dsimp only [linit, Nat.reduceSub, List.reduceReplicate] <;> rfl) ?_
  refine EV.aload_n (pc := 0) dX0_at_0 rfl ?_
  refine EV.iload_n (pc := 1) dX0_at_1 rfl ?_
  refine EV.callVR1 (pc := 2) (M' := M_X0_has) dX0_at_2 lkX0_58 okV_X0_has (m_has q nq lq a b r co f _ hq hnq hco hh hn) (by decide) rfl rfl (Nat.le_of_ble_eq_true rfl) hq hh ?_
  refine EV.if_eq (pc := 5) (tgt := 17) dX0_at_5 (by decide) (fun c5 => ?_) (fun c5 => ?_)
  · replace c5 := b2i_F c5
    refine EV.lconst (pc := 17) (v := 0) dX0_at_17 (by decide) ?_
    refine EV.lret (pc := 18) dX0_at_18 trivial ?_
    exact ⟨congrArg (fun z => some (Value.long z)) (by unfold nAt; first | (rw [if_pos c5]; rfl) | (rw [if_neg c5]; rfl)), rfl⟩
  · replace c5 := b2i_T c5
    refine EV.aload_n (pc := 8) dX0_at_8 rfl ?_
    refine EV.getf (pc := 9) dX0_at_9 fgX0_9 hq hh rfl ?_
    refine EV.iload_n (pc := 12) dX0_at_12 rfl ?_
    refine EV.lald (pc := 13) dX0_at_13 hnq hn (by rw [vp_in_iff]; omega) ?_
    refine EV.goto (pc := 14) (tgt := 18) dX0_at_14 (by decide) ?_
    refine EV.lret (pc := 18) dX0_at_18 trivial ?_
    exact ⟨congrArg (fun z => some (Value.long z)) (by unfold nAt; first | (rw [if_pos c5]; rfl) | (rw [if_neg c5]; rfl)), rfl⟩

set_option maxHeartbeats 4000000 in
set_option maxRecDepth 100000 in
theorem m_isPeak {G : eG} {ad : Nat → Nat} {h : Nat → va_E} (q nq lq : Nat) (a b r co : Nat) (f : Nat → Nat) (k : Nat) (t : Int64) (hq : q < 54) (hnq : nq < 54) (hco : co ≤ 20) (hh : h q = .inr (0, [.int (nI a), .int (nI b), .int (nI r), .int (nI co), .ref (ad nq), .ref (ad lq)])) (hn : h nq = .inl (G.2.2 1, 20, .inr (.inl (fun x => lN (f x))))) (hk1 : 1 ≤ k) (hk2 : k + 1 < co) (hb : ∀ j, j < 20 → f j ≤ 700000) : MC G M_X0_isPeak cX0_isPeak ad 54 [.ref (ad q), .int (nI k), .long t] h (IS (some (.int (b2i (decide (f (k - 1) < f k ∧ f (k + 1) ≤ f k ∧ t.toInt ≤ f k))))) h) := by
  refine MC.of (by decide +kernel) (Nat.le_of_ble_eq_true rfl) (by dsimp only [linit, Nat.reduceSub, List.reduceReplicate] <;> rfl) ?_
  refine EV.aload_n (pc := 0) dX0_isPeak_0 rfl ?_
  refine EV.iload_n (pc := 1) dX0_isPeak_1 rfl ?_
  refine EV.callVR1 (pc := 2) (M' := M_X0_at) dX0_isPeak_2 lkX0_62 okV_X0_at (m_kat q nq lq a b r co f _ hq hnq hco hh hn) (by decide) rfl rfl (Nat.le_of_ble_eq_true rfl) hq hh ?_
  refine EV.topl (y := lN (f (k))) (by rw [nI_t (by omega), nAt_in (by omega)]) ?_
  refine EV.aload_n (pc := 5) dX0_isPeak_5 rfl ?_
  refine EV.iload_n (pc := 6) dX0_isPeak_6 rfl ?_
  refine EV.iconst (pc := 7) (v := 1) dX0_isPeak_7 (by decide) ?_
  refine EV.isub (pc := 8) dX0_isPeak_8 ?_
  rw [nI_m1 hk1]
  refine EV.callVR1 (pc := 9) (M' := M_X0_at) dX0_isPeak_9 lkX0_62 okV_X0_at (m_kat q nq lq a b r co f _ hq hnq hco hh hn) (by decide) rfl rfl (Nat.le_of_ble_eq_true rfl) hq hh ?_
  refine EV.topl (y := lN (f (k - 1))) (by rw [nI_t (by omega), nAt_in (by omega)]) ?_
  refine EV.lcmp_le (pc := 12) (tgt := 46) dX0_isPeak_12 dX0_isPeak_13 (by decide) (fun c12 => ?_) (fun c12 => ?_)
  · refine EV.iconst (pc := 46) (v := 0) dX0_isPeak_46 (by decide) ?_
    refine EV.iret (pc := 47) dX0_isPeak_47 (by rfl) ?_
    exact ⟨congrArg (fun z => some (Value.int z)) (by first | exact b2i_1 (by have g1 := hb k (by omega); have g2 := hb (k - 1) (by omega); have g3 := hb (k + 1) (by omega); have e1 := lN_t (show f k < 9223372036854775808 by omega); have e2 := lN_t (show f (k - 1) < 9223372036854775808 by omega); have e3 := lN_t (show f (k + 1) < 9223372036854775808 by omega); simp only [Int32.lt_iff_toInt_lt, Int32.le_iff_toInt_le, ← Int32.toInt_inj, Int64.lt_iff_toInt_lt, Int64.le_iff_toInt_le, ← Int64.toInt_inj, i_l0, i_l1, i_l2, i_l5, i_l19, i_m1, j_l0, j_l1, j_l5, Int32.toInt_toInt64, e1, e2, e3] at *; omega) | exact b2i_0 (by have g1 := hb k (by omega); have g2 := hb (k - 1) (by omega); have g3 := hb (k + 1) (by omega); have e1 := lN_t (show f k < 9223372036854775808 by omega); have e2 := lN_t (show f (k - 1) < 9223372036854775808 by omega); have e3 := lN_t (show f (k + 1) < 9223372036854775808 by omega); simp only [Int32.lt_iff_toInt_lt, Int32.le_iff_toInt_le, ← Int32.toInt_inj, Int64.lt_iff_toInt_lt, Int64.le_iff_toInt_le, ← Int64.toInt_inj, i_l0, i_l1, i_l2, i_l5, i_l19, i_m1, j_l0, j_l1, j_l5, Int32.toInt_toInt64, e1, e2, e3] at *; omega)), rfl⟩
  · refine EV.aload_n (pc := 16) dX0_isPeak_16 rfl ?_
    refine EV.iload_n (pc := 17) dX0_isPeak_17 rfl ?_
    refine EV.callVR1 (pc := 18) (M' := M_X0_at) dX0_isPeak_18 lkX0_62 okV_X0_at (m_kat q nq lq a b r co f _ hq hnq hco hh hn) (by decide) rfl rfl (Nat.le_of_ble_eq_true rfl) hq hh ?_
    refine EV.topl (y := lN (f (k))) (by rw [nI_t (by omega), nAt_in (by omega)]) ?_
    refine EV.aload_n (pc := 21) dX0_isPeak_21 rfl ?_
    refine EV.iload_n (pc := 22) dX0_isPeak_22 rfl ?_
    refine EV.iconst (pc := 23) (v := 1) dX0_isPeak_23 (by decide) ?_
    refine EV.iadd (pc := 24) dX0_isPeak_24 ?_
    rw [nI_p1]
    refine EV.callVR1 (pc := 25) (M' := M_X0_at) dX0_isPeak_25 lkX0_62 okV_X0_at (m_kat q nq lq a b r co f _ hq hnq hco hh hn) (by decide) rfl rfl (Nat.le_of_ble_eq_true rfl) hq hh ?_
    refine EV.topl (y := lN (f (k + 1))) (by rw [nI_t (by omega), nAt_in (by omega)]) ?_
    refine EV.lcmp_lt (pc := 28) (tgt := 46) dX0_isPeak_28 dX0_isPeak_29 (by decide) (fun c28 => ?_) (fun c28 => ?_)
    · refine EV.iconst (pc := 46) (v := 0) dX0_isPeak_46 (by decide) ?_
      refine EV.iret (pc := 47) dX0_isPeak_47 (by rfl) ?_
      exact ⟨congrArg (fun z => some (Value.int z)) (by first | exact b2i_1 (by have g1 := hb k (by omega); have g2 := hb (k - 1) (by omega); have g3 := hb (k + 1) (by omega); have e1 := lN_t (show f k < 9223372036854775808 by omega); have e2 := lN_t (show f (k - 1) < 9223372036854775808 by omega); have e3 := lN_t (show f (k + 1) < 9223372036854775808 by omega); simp only [Int32.lt_iff_toInt_lt, Int32.le_iff_toInt_le, ← Int32.toInt_inj, Int64.lt_iff_toInt_lt, Int64.le_iff_toInt_le, ← Int64.toInt_inj, i_l0, i_l1, i_l2, i_l5, i_l19, i_m1, j_l0, j_l1, j_l5, Int32.toInt_toInt64, e1, e2, e3] at *; omega) | exact b2i_0 (by have g1 := hb k (by omega); have g2 := hb (k - 1) (by omega); have g3 := hb (k + 1) (by omega); have e1 := lN_t (show f k < 9223372036854775808 by omega); have e2 := lN_t (show f (k - 1) < 9223372036854775808 by omega); have e3 := lN_t (show f (k + 1) < 9223372036854775808 by omega); simp only [Int32.lt_iff_toInt_lt, Int32.le_iff_toInt_le, ← Int32.toInt_inj, Int64.lt_iff_toInt_lt, Int64.le_iff_toInt_le, ← Int64.toInt_inj, i_l0, i_l1, i_l2, i_l5, i_l19, i_m1, j_l0, j_l1, j_l5, Int32.toInt_toInt64, e1, e2, e3] at *; omega)), rfl⟩
    · refine EV.aload_n (pc := 32) dX0_isPeak_32 rfl ?_
      refine EV.iload_n (pc := 33) dX0_isPeak_33 rfl ?_
      refine EV.callVR1 (pc := 34) (M' := M_X0_at) dX0_isPeak_34 lkX0_62 okV_X0_at (m_kat q nq lq a b r co f _ hq hnq hco hh hn) (by decide) rfl rfl (Nat.le_of_ble_eq_true rfl) hq hh ?_
      refine EV.topl (y := lN (f (k))) (by rw [nI_t (by omega), nAt_in (by omega)]) ?_
      refine EV.lload_n (pc := 37) dX0_isPeak_37 rfl ?_
      refine EV.lcmp_lt (pc := 38) (tgt := 46) dX0_isPeak_38 dX0_isPeak_39 (by decide) (fun c38 => ?_) (fun c38 => ?_)
      · refine EV.iconst (pc := 46) (v := 0) dX0_isPeak_46 (by decide) ?_
        refine EV.iret (pc := 47) dX0_isPeak_47 (by rfl) ?_
        exact ⟨congrArg (fun z => some (Value.int z)) (by first | exact b2i_1 (by have g1 := hb k (by omega); have g2 := hb (k - 1) (by omega); have g3 := hb (k + 1) (by omega); have e1 := lN_t (show f k < 9223372036854775808 by omega); have e2 := lN_t (show f (k - 1) < 9223372036854775808 by omega); have e3 := lN_t (show f (k + 1) < 9223372036854775808 by omega); simp only [Int32.lt_iff_toInt_lt, Int32.le_iff_toInt_le, ← Int32.toInt_inj, Int64.lt_iff_toInt_lt, Int64.le_iff_toInt_le, ← Int64.toInt_inj, i_l0, i_l1, i_l2, i_l5, i_l19, i_m1, j_l0, j_l1, j_l5, Int32.toInt_toInt64, e1, e2, e3] at *; omega) | exact b2i_0 (by have g1 := hb k (by omega); have g2 := hb (k - 1) (by omega); have g3 := hb (k + 1) (by omega); have e1 := lN_t (show f k < 9223372036854775808 by omega); have e2 := lN_t (show f (k - 1) < 9223372036854775808 by omega); have e3 := lN_t (show f (k + 1) < 9223372036854775808 by omega); simp only [Int32.lt_iff_toInt_lt, Int32.le_iff_toInt_le, ← Int32.toInt_inj, Int64.lt_iff_toInt_lt, Int64.le_iff_toInt_le, ← Int64.toInt_inj, i_l0, i_l1, i_l2, i_l5, i_l19, i_m1, j_l0, j_l1, j_l5, Int32.toInt_toInt64, e1, e2, e3] at *; omega)), rfl⟩
      · refine EV.iconst (pc := 42) (v := 1) dX0_isPeak_42 (by decide) ?_
        refine EV.goto (pc := 43) (tgt := 47) dX0_isPeak_43 (by decide) ?_
        refine EV.iret (pc := 47) dX0_isPeak_47 (by rfl) ?_
        exact ⟨congrArg (fun z => some (Value.int z)) (by first | exact b2i_1 (by have g1 := hb k (by omega); have g2 := hb (k - 1) (by omega); have g3 := hb (k + 1) (by omega); have e1 := lN_t (show f k < 9223372036854775808 by omega); have e2 := lN_t (show f (k - 1) < 9223372036854775808 by omega); have e3 := lN_t (show f (k + 1) < 9223372036854775808 by omega); simp only [Int32.lt_iff_toInt_lt, Int32.le_iff_toInt_le, ← Int32.toInt_inj, Int64.lt_iff_toInt_lt, Int64.le_iff_toInt_le, ← Int64.toInt_inj, i_l0, i_l1, i_l2, i_l5, i_l19, i_m1, j_l0, j_l1, j_l5, Int32.toInt_toInt64, e1, e2, e3] at *; omega) | exact b2i_0 (by have g1 := hb k (by omega); have g2 := hb (k - 1) (by omega); have g3 := hb (k + 1) (by omega); have e1 := lN_t (show f k < 9223372036854775808 by omega); have e2 := lN_t (show f (k - 1) < 9223372036854775808 by omega); have e3 := lN_t (show f (k + 1) < 9223372036854775808 by omega); simp only [Int32.lt_iff_toInt_lt, Int32.le_iff_toInt_le, ← Int32.toInt_inj, Int64.lt_iff_toInt_lt, Int64.le_iff_toInt_le, ← Int64.toInt_inj, i_l0, i_l1, i_l2, i_l5, i_l19, i_m1, j_l0, j_l1, j_l5, Int32.toInt_toInt64, e1, e2, e3] at *; omega)), rfl⟩

/-- the place of a peak, in 64ths -/
def pkP (f : Nat → Nat) (k : Nat) : Int := 64 * (k : Int) + (64 * ((f (k + 1) : Int) - f (k - 1))) / ((f (k - 1) : Int) + f k + f (k + 1))
theorem pk_sum (f : Nat → Nat) (k : Nat) : lN (f (k - 1)) + lN (f k) + lN (f (k + 1)) = jI ((f (k - 1) : Int) + f k + f (k + 1)) := by
  rw [lN_jI, lN_jI, lN_jI, jI_add, jI_add]

set_option maxHeartbeats 4000000 in
set_option maxRecDepth 100000 in
theorem m_placeOfPeak {G : eG} {ad : Nat → Nat} {h : Nat → va_E} (q nq lq : Nat) (a b r co : Nat) (f : Nat → Nat) (k : Nat) (hq : q < 54) (hnq : nq < 54) (hco : co ≤ 20) (hh : h q = .inr (0, [.int (nI a), .int (nI b), .int (nI r), .int (nI co), .ref (ad nq), .ref (ad lq)])) (hn : h nq = .inl (G.2.2 1, 20, .inr (.inl (fun x => lN (f x))))) (hk1 : 1 ≤ k) (hk2 : k + 1 < co) (hb : ∀ j, j < 20 → f j ≤ 700000) (hpos : f (k - 1) < f k) : MC G M_X0_placeOfPeak cX0_placeOfPeak ad 54 [.ref (ad q), .int (nI k)] h (IS (some (.int (iI (pkP f k)))) h) := by
  refine MC.of (by decide +kernel) (Nat.le_of_ble_eq_true rfl) (by dsimp only [linit, Nat.reduceSub, List.reduceReplicate] <;> rfl) ?_
  refine EV.aload_n (pc := 0) dX0_placeOfPeak_0 rfl ?_
  refine EV.iload_n (pc := 1) dX0_placeOfPeak_1 rfl ?_
  refine EV.iconst (pc := 2) (v := 1) dX0_placeOfPeak_2 (by decide) ?_
  refine EV.isub (pc := 3) dX0_placeOfPeak_3 ?_
  rw [nI_m1 hk1]
  refine EV.callVR1 (pc := 4) (M' := M_X0_at) dX0_placeOfPeak_4 lkX0_62 okV_X0_at (m_kat q nq lq a b r co f _ hq hnq hco hh hn) (by decide) rfl rfl (Nat.le_of_ble_eq_true rfl) hq hh ?_
  refine EV.topl (y := lN (f (k - 1))) (by rw [nI_t (by omega), nAt_in (by omega)]) ?_
  refine EV.aload_n (pc := 7) dX0_placeOfPeak_7 rfl ?_
  refine EV.iload_n (pc := 8) dX0_placeOfPeak_8 rfl ?_
  refine EV.callVR1 (pc := 9) (M' := M_X0_at) dX0_placeOfPeak_9 lkX0_62 okV_X0_at (m_kat q nq lq a b r co f _ hq hnq hco hh hn) (by decide) rfl rfl (Nat.le_of_ble_eq_true rfl) hq hh ?_
  refine EV.topl (y := lN (f (k))) (by rw [nI_t (by omega), nAt_in (by omega)]) ?_
  refine EV.ladd (pc := 12) dX0_placeOfPeak_12 ?_
  refine EV.aload_n (pc := 13) dX0_placeOfPeak_13 rfl ?_
  refine EV.iload_n (pc := 14) dX0_placeOfPeak_14 rfl ?_
  refine EV.iconst (pc := 15) (v := 1) dX0_placeOfPeak_15 (by decide) ?_
  refine EV.iadd (pc := 16) dX0_placeOfPeak_16 ?_
  rw [nI_p1]
  refine EV.callVR1 (pc := 17) (M' := M_X0_at) dX0_placeOfPeak_17 lkX0_62 okV_X0_at (m_kat q nq lq a b r co f _ hq hnq hco hh hn) (by decide) rfl rfl (Nat.le_of_ble_eq_true rfl) hq hh ?_
  refine EV.topl (y := lN (f (k + 1))) (by rw [nI_t (by omega), nAt_in (by omega)]) ?_
  refine EV.ladd (pc := 20) dX0_placeOfPeak_20 ?_
  have g1 := hb k (by omega); have g2 := hb (k - 1) (by omega); have g3 := hb (k + 1) (by omega)
  rw [pk_sum]
  refine EV.lstore_n (pc := 21) 2 dX0_placeOfPeak_21 rfl (by decide) (by dsimp only [lst2, lno, lk] <;> rfl) ?_
  refine EV.lload_n (pc := 22) dX0_placeOfPeak_22 rfl ?_
  refine EV.lconst (pc := 23) (v := 0) dX0_placeOfPeak_23 (by decide) ?_
  refine EV.lcmp_gt (pc := 24) (tgt := 33) dX0_placeOfPeak_24 dX0_placeOfPeak_25 (by decide) (fun _ => ?_) (fun q => absurd (by rw [Int64.lt_iff_toInt_lt, j_l0, jI_toInt (by omega) (by omega)]; omega) q)
  refine EV.bipush (pc := 33) (v := 64) dX0_placeOfPeak_33 (by decide) ?_
  refine EV.iload_n (pc := 35) dX0_placeOfPeak_35 rfl ?_
  refine EV.imul (pc := 36) dX0_placeOfPeak_36 ?_
  refine EV.i2l (pc := 37) dX0_placeOfPeak_37 ?_
  refine EV.ldc2 (pc := 38) dX0_placeOfPeak_38 kcX0_66 ?_
  refine EV.aload_n (pc := 41) dX0_placeOfPeak_41 rfl ?_
  refine EV.iload_n (pc := 42) dX0_placeOfPeak_42 rfl ?_
  refine EV.iconst (pc := 43) (v := 1) dX0_placeOfPeak_43 (by decide) ?_
  refine EV.iadd (pc := 44) dX0_placeOfPeak_44 ?_
  rw [nI_p1]
  refine EV.callVR1 (pc := 45) (M' := M_X0_at) dX0_placeOfPeak_45 lkX0_62 okV_X0_at (m_kat q nq lq a b r co f _ hq hnq hco hh hn) (by decide) rfl rfl (Nat.le_of_ble_eq_true rfl) hq hh ?_
  refine EV.topl (y := lN (f (k + 1))) (by rw [nI_t (by omega), nAt_in (by omega)]) ?_
  refine EV.aload_n (pc := 48) dX0_placeOfPeak_48 rfl ?_
  refine EV.iload_n (pc := 49) dX0_placeOfPeak_49 rfl ?_
  refine EV.iconst (pc := 50) (v := 1) dX0_placeOfPeak_50 (by decide) ?_
  refine EV.isub (pc := 51) dX0_placeOfPeak_51 ?_
  rw [nI_m1 hk1]
  refine EV.callVR1 (pc := 52) (M' := M_X0_at) dX0_placeOfPeak_52 lkX0_62 okV_X0_at (m_kat q nq lq a b r co f _ hq hnq hco hh hn) (by decide) rfl rfl (Nat.le_of_ble_eq_true rfl) hq hh ?_
  refine EV.topl (y := lN (f (k - 1))) (by rw [nI_t (by omega), nAt_in (by omega)]) ?_
  refine EV.lsub (pc := 55) dX0_placeOfPeak_55 ?_
  refine EV.lmul (pc := 56) dX0_placeOfPeak_56 ?_
  refine EV.lload_n (pc := 57) dX0_placeOfPeak_57 rfl ?_
  refine EV.callSR1 (pc := 58) (M' := M_J9_floorDiv_f86c9) dX0_placeOfPeak_58 lkX0_68 okS_J9_floorDiv_f86c9 (m_floorDivJ _ _ (by rw [jI_toInt (by omega) (by omega)]; omega)) (by decide) rfl rfl (Nat.le_of_ble_eq_true rfl) ?_
  refine EV.ladd (pc := 61) dX0_placeOfPeak_61 ?_
  refine EV.l2i (pc := 62) dX0_placeOfPeak_62 ?_
  refine EV.iret (pc := 63) dX0_placeOfPeak_63 trivial ?_
  exact ⟨congrArg (fun z => some (Value.int z)) (by rw [lN_jI, lN_jI, jI_sub, show (64 : Int64) = jI 64 from jI_lit 64, jI_mul, jI_toInt (by omega) (by omega), jI_toInt (by omega) (by omega), show (64 : Int32) = iI 64 from iI_lit 64, nI_iI, iI_mul, iI_l (by omega) (by omega), jI_add, jI_i]; rfl), rfl⟩

def bMid (a b x w : Nat) : Int := ((a : Int) + (if 1 < w then (((b : Int) - a) * x) / ((w : Int) - 1) else 0) + 8) / 16
theorem bM_in {a b x w : Nat} (ha : a ≤ 304) (hb : b ≤ 304) (hx : x < w) : 0 ≤ (a : Int) + (if 1 < w then (((b : Int) - a) * x) / ((w : Int) - 1) else 0) ∧ (a : Int) + (if 1 < w then (((b : Int) - a) * x) / ((w : Int) - 1) else 0) ≤ 304 := by
  by_cases h1 : 1 < w
  · rw [if_pos h1]
    have hw : 0 < (w : Int) - 1 := by omega
    by_cases h : a ≤ b
    · have l1 : 0 ≤ ((b : Int) - a) * x := Int.mul_nonneg (by omega) (by omega)
      have l2 : ((b : Int) - a) * x ≤ ((b : Int) - a) * ((w : Int) - 1) := Int.mul_le_mul_of_nonneg_left (by omega) (by omega)
      have l3 : 0 ≤ (((b : Int) - a) * x) / ((w : Int) - 1) := Int.ediv_nonneg l1 (by omega)
      have l4 : (((b : Int) - a) * x) / ((w : Int) - 1) ≤ (b : Int) - a := by
        apply Int.ediv_le_of_le_mul hw
        exact l2
      omega
    · have l1 : ((b : Int) - a) * ((w : Int) - 1) ≤ ((b : Int) - a) * x := by
        have := Int.mul_le_mul_of_nonneg_left (show (x : Int) ≤ (w : Int) - 1 by omega) (show 0 ≤ (a : Int) - b by omega)
        have e1 : ((a : Int) - b) * x = -(((b : Int) - a) * x) := by rw [← Int.neg_mul]; congr 1; omega
        have e2 : ((a : Int) - b) * ((w : Int) - 1) = -(((b : Int) - a) * ((w : Int) - 1)) := by rw [← Int.neg_mul]; congr 1; omega
        omega
      have l2 : ((b : Int) - a) * x ≤ 0 := Int.mul_nonpos_of_nonpos_of_nonneg (by omega) (by omega)
      have l3 : (b : Int) - a ≤ (((b : Int) - a) * x) / ((w : Int) - 1) := by
        apply (Int.le_ediv_iff_mul_le hw).mpr
        exact l1
      have l4 : (((b : Int) - a) * x) / ((w : Int) - 1) ≤ 0 := by
        apply Int.ediv_le_of_le_mul hw
        omega
      omega
  · rw [if_neg h1]
    omega
theorem bMid_in {a b x w : Nat} (ha : a ≤ 304) (hb : b ≤ 304) (hx : x < w) : 0 ≤ bMid a b x w ∧ bMid a b x w ≤ 19 := by
  have h := bM_in ha hb hx
  unfold bMid
  generalize (a : Int) + (if 1 < w then (((b : Int) - a) * x) / ((w : Int) - 1) else 0) = m at h
  omega
def bLo (a b r x w : Nat) : Int := if bMid a b x w - r < 0 then 0 else bMid a b x w - r
def bHi (a b r x w t : Nat) : Int := if bMid a b x w + r < (t : Int) - 1 then bMid a b x w + r else (t : Int) - 1
theorem bX {a b x : Nat} (ha : a ≤ 304) (hb : b ≤ 304) (hx : x < 20) : -6080 ≤ ((b : Int) - a) * x ∧ ((b : Int) - a) * x ≤ 6080 := by
  have h1 : (((b : Int) - a) * x).natAbs ≤ 304 * 20 := by
    rw [Int.natAbs_mul]
    exact Nat.mul_le_mul (by omega) (by omega)
  omega

set_option maxHeartbeats 4000000 in
set_option maxRecDepth 100000 in
theorem m_middleRow {G : eG} {ad : Nat → Nat} {h : Nat → va_E} (q : Nat) (v1 v2 : Value) (a b r co x w : Nat) (hq : q < 54) (ha : a ≤ 304) (hb : b ≤ 304) (hx : x < w) (hw : w ≤ 20) (hh : h q = .inr (0, [.int (nI a), .int (nI b), .int (nI r), .int (nI co), v1, v2])) : MC G M_X0_middleRow cX0_middleRow ad 54 [.ref (ad q), .int (nI x), .int (nI w)] h (IS (some (.int (iI (bMid a b x w)))) h) := by
  refine MC.of (by decide +kernel) (Nat.le_of_ble_eq_true rfl) (by dsimp only [linit, Nat.reduceSub, List.reduceReplicate] <;> rfl) ?_
  have hin := bM_in ha hb hx
  have hX := bX (x := x) ha hb (by omega)
  refine EV.aload_n (pc := 0) dX0_middleRow_0 rfl ?_
  refine EV.getf (pc := 1) dX0_middleRow_1 fgX0_22 hq hh rfl ?_
  refine EV.istore_n (pc := 4) 3 dX0_middleRow_4 rfl (by decide) (by dsimp only [lst1, lk] <;> rfl) ?_
  refine EV.iload_n (pc := 5) dX0_middleRow_5 rfl ?_
  refine EV.iconst (pc := 6) (v := 1) dX0_middleRow_6 (by decide) ?_
  refine EV.icmp_le (pc := 7) (tgt := 30) dX0_middleRow_7 (by decide) (fun c7 => ?_) (fun c7 => ?_)
  · refine EV.iload_n (pc := 30) dX0_middleRow_30 rfl ?_
    refine EV.bipush (pc := 31) (v := 8) dX0_middleRow_31 (by decide) ?_
    refine EV.iadd (pc := 33) dX0_middleRow_33 ?_
    refine EV.bipush (pc := 34) (v := 16) dX0_middleRow_34 (by decide) ?_
    refine EV.callSR1 (pc := 36) (M' := M_J9_floorDiv_7cf53) dX0_middleRow_36 lkX0_29 okS_J9_floorDiv_7cf53 (m_floorDivI _ _ (by decide +kernel)) (by decide) rfl rfl (Nat.le_of_ble_eq_true rfl) ?_
    refine EV.iret (pc := 39) dX0_middleRow_39 trivial ?_
    refine ⟨congrArg (fun z => some (Value.int z)) ?_, rfl⟩
    have e := nI_t (show w < 2147483648 by omega)
    simp only [Int32.le_iff_toInt_le, i_l1, e] at c7
    have hin2 := hin
    unfold bMid
    first
    | (rw [if_pos (by omega)] at hin2 ⊢; rw [nI_iI, show (8 : Int32) = iI 8 from iI_lit 8, iI_add, iI_add, iI_toInt (by omega) (by omega), show ((16 : Int32)).toInt = 16 from (by decide +kernel)])
    | (rw [if_neg (by omega)] at hin2 ⊢; rw [nI_iI, show (8 : Int32) = iI 8 from iI_lit 8, iI_add, iI_toInt (by omega) (by omega), show ((16 : Int32)).toInt = 16 from (by decide +kernel), Int.add_zero])
  · refine EV.iload_n (pc := 10) dX0_middleRow_10 rfl ?_
    refine EV.aload_n (pc := 11) dX0_middleRow_11 rfl ?_
    refine EV.getf (pc := 12) dX0_middleRow_12 fgX0_26 hq hh rfl ?_
    refine EV.aload_n (pc := 15) dX0_middleRow_15 rfl ?_
    refine EV.getf (pc := 16) dX0_middleRow_16 fgX0_22 hq hh rfl ?_
    refine EV.isub (pc := 19) dX0_middleRow_19 ?_
    refine EV.iload_n (pc := 20) dX0_middleRow_20 rfl ?_
    refine EV.imul (pc := 21) dX0_middleRow_21 ?_
    refine EV.iload_n (pc := 22) dX0_middleRow_22 rfl ?_
    refine EV.iconst (pc := 23) (v := 1) dX0_middleRow_23 (by decide) ?_
    refine EV.isub (pc := 24) dX0_middleRow_24 ?_
    refine EV.callSR1 (pc := 25) (M' := M_J9_floorDiv_7cf53) dX0_middleRow_25 lkX0_29 okS_J9_floorDiv_7cf53 (m_floorDivI _ _ (by rw [nI_iI, show (1 : Int32) = iI 1 from iI_lit 1, iI_sub, iI_toInt (by omega) (by omega)]; have := nI_t (show w < 2147483648 by omega); simp only [Int32.le_iff_toInt_le, i_l1, this] at c7; omega)) (by decide) rfl rfl (Nat.le_of_ble_eq_true rfl) ?_
    refine EV.topi (y := iI ((((b : Int) - a) * x) / ((w : Int) - 1))) (by rw [nI_iI, nI_iI, nI_iI, nI_iI, show (1 : Int32) = iI 1 from iI_lit 1, iI_sub, iI_sub, iI_mul, iI_toInt (by omega) (by omega), iI_toInt (by omega) (by omega)]) ?_
    refine EV.iadd (pc := 28) dX0_middleRow_28 ?_
    refine EV.istore_n (pc := 29) 3 dX0_middleRow_29 rfl (by decide) (by dsimp only [lst1, lk] <;> rfl) ?_
    refine EV.iload_n (pc := 30) dX0_middleRow_30 rfl ?_
    refine EV.bipush (pc := 31) (v := 8) dX0_middleRow_31 (by decide) ?_
    refine EV.iadd (pc := 33) dX0_middleRow_33 ?_
    refine EV.bipush (pc := 34) (v := 16) dX0_middleRow_34 (by decide) ?_
    refine EV.callSR1 (pc := 36) (M' := M_J9_floorDiv_7cf53) dX0_middleRow_36 lkX0_29 okS_J9_floorDiv_7cf53 (m_floorDivI _ _ (by decide +kernel)) (by decide) rfl rfl (Nat.le_of_ble_eq_true rfl) ?_
    refine EV.iret (pc := 39) dX0_middleRow_39 trivial ?_
    refine ⟨congrArg (fun z => some (Value.int z)) ?_, rfl⟩
    have e := nI_t (show w < 2147483648 by omega)
    simp only [Int32.le_iff_toInt_le, i_l1, e] at c7
    have hin2 := hin
    unfold bMid
    first
    | (rw [if_pos (by omega)] at hin2 ⊢; rw [nI_iI, show (8 : Int32) = iI 8 from iI_lit 8, iI_add, iI_add, iI_toInt (by omega) (by omega), show ((16 : Int32)).toInt = 16 from (by decide +kernel)])
    | (rw [if_neg (by omega)] at hin2 ⊢; rw [nI_iI, show (8 : Int32) = iI 8 from iI_lit 8, iI_add, iI_toInt (by omega) (by omega), show ((16 : Int32)).toInt = 16 from (by decide +kernel), Int.add_zero])
end
section
set_option maxHeartbeats 4000000 in
set_option maxRecDepth 100000 in
theorem m_leastRow {G : eG} {ad : Nat → Nat} {h : Nat → va_E} (q q2 : Nat) (v1 v2 v3 : Value) (l la : Int32) (a b r co x w t : Nat) (hq : q < 54) (hq2 : q2 < 54) (ha : a ≤ 304) (hb : b ≤ 304) (hr : r ≤ 3) (hx : x < w) (hw : w ≤ 20) (ht : t ≤ 20) (hh : h q = .inr (0, [.int (nI a), .int (nI b), .int (nI r), .int (nI co), v1, v2])) (hh2 : h q2 = .inr (2, [.int l, .int la, .int (nI w), .int (nI t), v3])) : MC G M_X0_leastRow cX0_leastRow ad 54 [.ref (ad q), .int (nI x), .ref (ad q2)] h (IS (some (.int (iI (bLo a b r x w)))) h) := by
  refine MC.of (by decide +kernel) (Nat.le_of_ble_eq_true rfl) (by dsimp only [linit, Nat.reduceSub, List.reduceReplicate] <;> rfl) ?_
  have hin := bMid_in ha hb hx
  refine EV.iconst (pc := 0) (v := 0) dX0_leastRow_0 (by decide) ?_
  refine EV.aload_n (pc := 1) dX0_leastRow_1 rfl ?_
  refine EV.iload_n (pc := 2) dX0_leastRow_2 rfl ?_
  refine EV.aload_n (pc := 3) dX0_leastRow_3 rfl ?_
  refine EV.getf (pc := 4) dX0_leastRow_4 fgX0_35 hq2 hh2 rfl ?_
  refine EV.callVR1 (pc := 7) (M' := M_X0_middleRow) dX0_leastRow_7 lkX0_40 okV_X0_middleRow (m_middleRow q _ _ a b r co x w hq ha hb hx hw hh) (by decide) rfl rfl (Nat.le_of_ble_eq_true rfl) hq hh ?_
  refine EV.aload_n (pc := 10) dX0_leastRow_10 rfl ?_
  refine EV.getf (pc := 11) dX0_leastRow_11 fgX0_43 hq hh rfl ?_
  refine EV.isub (pc := 14) dX0_leastRow_14 ?_
  refine EV.callSR1 (pc := 15) (M' := M_J9_max_7cf53) dX0_leastRow_15 lkX0_46 okS_J9_max_7cf53 (m_max _ _) (by decide) rfl rfl (Nat.le_of_ble_eq_true rfl) ?_
  refine EV.iret (pc := 18) dX0_leastRow_18 trivial ?_
  refine ⟨congrArg (fun z => some (Value.int z)) ?_, rfl⟩
  unfold bLo
  rw [nI_iI, iI_sub, i_l0, iI_toInt (by omega) (by omega)]
  by_cases hc : bMid a b x w - r < 0
  · rw [if_neg (by omega), if_pos hc]; rfl
  · rw [if_neg hc]
    by_cases h0 : 0 < bMid a b x w - r
    · rw [if_pos h0]
    · rw [if_neg h0, show bMid a b x w - r = 0 by omega]; rfl

set_option maxHeartbeats 4000000 in
set_option maxRecDepth 100000 in
theorem m_greatestRow {G : eG} {ad : Nat → Nat} {h : Nat → va_E} (q q2 : Nat) (v1 v2 v3 : Value) (l la : Int32) (a b r co x w t : Nat) (hq : q < 54) (hq2 : q2 < 54) (ha : a ≤ 304) (hb : b ≤ 304) (hr : r ≤ 3) (hx : x < w) (hw : w ≤ 20) (ht : t ≤ 20) (hh : h q = .inr (0, [.int (nI a), .int (nI b), .int (nI r), .int (nI co), v1, v2])) (hh2 : h q2 = .inr (2, [.int l, .int la, .int (nI w), .int (nI t), v3])) : MC G M_X0_greatestRow cX0_greatestRow ad 54 [.ref (ad q), .int (nI x), .ref (ad q2)] h (IS (some (.int (iI (bHi a b r x w t)))) h) := by
  refine MC.of (by decide +kernel) (Nat.le_of_ble_eq_true rfl) (by dsimp only [linit, Nat.reduceSub, List.reduceReplicate] <;> rfl) ?_
  have hin := bMid_in ha hb hx
  refine EV.aload_n (pc := 0) dX0_greatestRow_0 rfl ?_
  refine EV.getf (pc := 1) dX0_greatestRow_1 fgX0_49 hq2 hh2 rfl ?_
  refine EV.iconst (pc := 4) (v := 1) dX0_greatestRow_4 (by decide) ?_
  refine EV.isub (pc := 5) dX0_greatestRow_5 ?_
  refine EV.aload_n (pc := 6) dX0_greatestRow_6 rfl ?_
  refine EV.iload_n (pc := 7) dX0_greatestRow_7 rfl ?_
  refine EV.aload_n (pc := 8) dX0_greatestRow_8 rfl ?_
  refine EV.getf (pc := 9) dX0_greatestRow_9 fgX0_35 hq2 hh2 rfl ?_
  refine EV.callVR1 (pc := 12) (M' := M_X0_middleRow) dX0_greatestRow_12 lkX0_40 okV_X0_middleRow (m_middleRow q _ _ a b r co x w hq ha hb hx hw hh) (by decide) rfl rfl (Nat.le_of_ble_eq_true rfl) hq hh ?_
  refine EV.aload_n (pc := 15) dX0_greatestRow_15 rfl ?_
  refine EV.getf (pc := 16) dX0_greatestRow_16 fgX0_43 hq hh rfl ?_
  refine EV.iadd (pc := 19) dX0_greatestRow_19 ?_
  refine EV.callSR1 (pc := 20) (M' := M_J9_min_7cf53) dX0_greatestRow_20 lkX0_52 okS_J9_min_7cf53 (m_min _ _) (by decide) rfl rfl (Nat.le_of_ble_eq_true rfl) ?_
  refine EV.iret (pc := 23) dX0_greatestRow_23 trivial ?_
  refine ⟨congrArg (fun z => some (Value.int z)) ?_, rfl⟩
  unfold bHi
  rw [nI_iI, nI_iI, iI_add, show (1 : Int32) = iI 1 from iI_lit 1, iI_sub, iI_toInt (by omega) (by omega), iI_toInt (by omega) (by omega)]
  by_cases hc : bMid a b x w + r < (t : Int) - 1
  · rw [if_pos hc, if_pos hc]
  · rw [if_neg hc, if_neg hc]
end
section
theorem CW.pl' {G : eG} {ad : Nat → Nat} {s : St} {z : Zc} {hm h : Nat → va_E} (hw : CW G ad s z hm h) {p : Nat} (hp : p < 6) : h (10 + 2 * p) = .inr (2, [.int (b2i (s_lost s p)), .int (nI (s_lane s p)), .int (nI (s_w s p)), .int (nI (s_h s p)), .ref (ad (11 + 2 * p))]) := hw.pl p hp
theorem CW.kb' {G : eG} {ad : Nat → Nat} {s : St} {z : Zc} {hm h : Nat → va_E} (hw : CW G ad s z hm h) {p : Nat} (hp : p < 4) : h (22 + 3 * p) = .inr (0, [.int (nI (s_ca s p)), .int (nI (s_cb s p)), .int (nI (s_cr s p)), .int (nI (s_co s p)), .ref (ad (23 + 3 * p)), .ref (ad (24 + 3 * p))]) := hw.kb p hp
theorem CW.lw' {G : eG} {ad : Nat → Nat} {s : St} {z : Zc} {hm h : Nat → va_E} (hw : CW G ad s z hm h) {p : Nat} (hp : p < 4) : h (24 + 3 * p) = .inr (1, [.int (b2i (s_li s p)), .int (s_lA s p), .int (s_lB s p), .int (s_lF s p)]) := hw.lw p hp
/-- a cause is told -/
def f_caus (s : St) (k : Nat) : St := S_cc (S_cs s (nI k)) (upd (s_cc s) k (s_cc s k + 1))
/-- what always holds of the state -/
def Inv (s : St) : Prop := (∀ p, p < 6 → s_w s p ≤ 20 ∧ s_h s p ≤ 20 ∧ s_lane s p ≤ 2) ∧ (∀ p, p < 6 → ∀ k, k < 400 → (s_w s p ≤ k % 20 ∨ s_h s p ≤ k / 20) → s_ct s p k = 0) ∧ s_cn s ≤ 4 ∧ (∀ c, c < 4 → s_ca s c ≤ 304 ∧ s_cb s c ≤ 304 ∧ s_cr s c ≤ 3 ∧ s_co s c ≤ 20) ∧ (∀ c, c < 4 → ∀ x, x < 20 → s_nm s c x ≤ 700000) ∧ (∀ c, c < 4 → s_li s c = true → -1000000 ≤ (s_lA s c).toInt ∧ (s_lA s c).toInt ≤ 1000000 ∧ 1 ≤ (s_lB s c).toInt ∧ (s_lB s c).toInt ≤ 100000) ∧ (∀ c, c < 4 → s_li s c = false → s_lA s c = 0 ∧ s_lB s c = 0 ∧ s_lF s c = 0) ∧ s_lc s ≤ 12 ∧ (∀ i, i < s_lc s → 1 ≤ (s_ln s i).toInt ∧ (s_ln s i).toInt ≤ 1000000) ∧ s_gc s ≤ 60 ∧ s_md s ≤ 200 ∧ (∀ p, p < 6 → s_lost s p = false → 1 ≤ s_w s p ∧ 1 ≤ s_h s p) ∧ (∀ p, p < 6 → ∀ k, k < 400 → iCast (s_ct s p k) (nI (s_lane s p)) = s_ct s p k)

set_option maxHeartbeats 4000000 in
set_option maxRecDepth 100000 in
theorem m_plateOf {G : eG} {ad : Nat → Nat} {h : Nat → va_E} (k : Nat) {s : St} {z : Zc} {hm : Nat → va_E} (hw : CW G ad s z hm h) (hk : k < 6) : MC G M_X4_plateOf cX4_plateOf ad 54 [.ref (ad 0), .int (nI k)] h (IS (some (.ref (ad (10 + 2 * k)))) h) := by
  refine MC.of (by decide +kernel) (Nat.le_of_ble_eq_true rfl) (by dsimp only [linit, Nat.reduceSub, List.reduceReplicate] <;> rfl) ?_
  refine EV.iload_n (pc := 0) dX4_plateOf_0 rfl ?_
  refine EV.iconst (pc := 1) (v := 0) dX4_plateOf_1 (by decide) ?_
  refine EV.iconst (pc := 2) (v := 5) dX4_plateOf_2 (by decide) ?_
  refine EV.callSR1 (pc := 3) (M' := M_X4_within) dX4_plateOf_3 lkX4_106 okS_X4_within (m_within _ _ _) (by decide) rfl rfl (Nat.le_of_ble_eq_true rfl) ?_
  refine EV.if_eq (pc := 6) (tgt := 18) dX4_plateOf_6 (by decide) (fun q => absurd q (fun q => b2i_F q (by rw [nI_t (by omega), i_l0, i_l5]; omega))) (fun _ => ?_)
  refine EV.aload_n (pc := 9) dX4_plateOf_9 rfl ?_
  refine EV.getf (pc := 10) dX4_plateOf_10 fgX4_11 (by decide) hw.h0 rfl ?_
  refine EV.iload_n (pc := 13) dX4_plateOf_13 rfl ?_
  refine EV.aald (pc := 14) (t0 := 3) dX4_plateOf_14 rfl (by decide) hw.h1 (vp_in_nI hk (by omega)) (v := .ref (ad (10 + 2 * k))) (by rw [nI_clamp (by omega)]; rfl) ?_
  refine EV.goto (pc := 15) (tgt := 19) dX4_plateOf_15 (by decide) ?_
  exact EV.rret (pc := 19) dX4_plateOf_19 trivial ⟨rfl, rfl⟩

set_option maxHeartbeats 4000000 in
set_option maxRecDepth 100000 in
theorem m_plateOfN {G : eG} {ad : Nat → Nat} {h : Nat → va_E} (v : Int32) {s : St} {z : Zc} {hm : Nat → va_E} (hw : CW G ad s z hm h) (hk : ¬ (0 ≤ v.toInt ∧ v.toInt ≤ 5)) : MC G M_X4_plateOf cX4_plateOf ad 54 [.ref (ad 0), .int v] h (IS (some .null) h) := by
  refine MC.of (by decide +kernel) (Nat.le_of_ble_eq_true rfl) (by dsimp only [linit, Nat.reduceSub, List.reduceReplicate] <;> rfl) ?_
  refine EV.iload_n (pc := 0) dX4_plateOf_0 rfl ?_
  refine EV.iconst (pc := 1) (v := 0) dX4_plateOf_1 (by decide) ?_
  refine EV.iconst (pc := 2) (v := 5) dX4_plateOf_2 (by decide) ?_
  refine EV.callSR1 (pc := 3) (M' := M_X4_within) dX4_plateOf_3 lkX4_106 okS_X4_within (m_within _ _ _) (by decide) rfl rfl (Nat.le_of_ble_eq_true rfl) ?_
  refine EV.if_eq (pc := 6) (tgt := 18) dX4_plateOf_6 (by decide) (fun _ => ?_) (fun q => absurd (by rw [i_l0, i_l5]; exact (b2i_0 hk).symm) q)
  refine EV.null (pc := 18) dX4_plateOf_18 ?_
  exact EV.nret (pc := 19) dX4_plateOf_19 trivial ⟨rfl, rfl⟩

set_option maxHeartbeats 4000000 in
set_option maxRecDepth 100000 in
theorem m_combOf {G : eG} {ad : Nat → Nat} {h : Nat → va_E} (k : Nat) {s : St} {z : Zc} {hm : Nat → va_E} (hw : CW G ad s z hm h) (hk : k < s_cn s) (hcn : s_cn s ≤ 4) : MC G M_X4_combOf cX4_combOf ad 54 [.ref (ad 0), .int (nI k)] h (IS (some (.ref (ad (22 + 3 * k)))) h) := by
  refine MC.of (by decide +kernel) (Nat.le_of_ble_eq_true rfl) (by dsimp only [linit, Nat.reduceSub, List.reduceReplicate] <;> rfl) ?_
  refine EV.iload_n (pc := 0) dX4_combOf_0 rfl ?_
  refine EV.iconst (pc := 1) (v := 0) dX4_combOf_1 (by decide) ?_
  refine EV.aload_n (pc := 2) dX4_combOf_2 rfl ?_
  refine EV.getf (pc := 3) dX4_combOf_3 fgX4_110 (by decide) hw.h0 rfl ?_
  refine EV.iconst (pc := 6) (v := 1) dX4_combOf_6 (by decide) ?_
  refine EV.isub (pc := 7) dX4_combOf_7 ?_
  refine EV.callSR1 (pc := 8) (M' := M_X4_within) dX4_combOf_8 lkX4_106 okS_X4_within (m_within _ _ _) (by decide) rfl rfl (Nat.le_of_ble_eq_true rfl) ?_
  refine EV.if_eq (pc := 11) (tgt := 23) dX4_combOf_11 (by decide) (fun q => absurd q (fun q => b2i_F q (by rw [nI_t (by omega), i_l0, nI_m1 (by omega), nI_t (by omega)]; omega))) (fun _ => ?_)
  refine EV.aload_n (pc := 14) dX4_combOf_14 rfl ?_
  refine EV.getf (pc := 15) dX4_combOf_15 fgX4_21 (by decide) hw.h0 rfl ?_
  refine EV.iload_n (pc := 18) dX4_combOf_18 rfl ?_
  refine EV.aald (pc := 19) (t0 := 4) dX4_combOf_19 rfl (by decide) hw.h3 (vp_in_nI (show k < 4 by omega) (by omega)) (v := .ref (ad (22 + 3 * k))) (by rw [nI_clamp (by omega)]; rfl) ?_
  refine EV.goto (pc := 20) (tgt := 24) dX4_combOf_20 (by decide) ?_
  exact EV.rret (pc := 24) dX4_combOf_24 trivial ⟨rfl, rfl⟩

set_option maxHeartbeats 4000000 in
set_option maxRecDepth 100000 in
theorem m_combOfN {G : eG} {ad : Nat → Nat} {h : Nat → va_E} (v : Int32) {s : St} {z : Zc} {hm : Nat → va_E} (hw : CW G ad s z hm h) (hk : ¬ (0 ≤ v.toInt ∧ v.toInt < s_cn s)) (hcn : s_cn s ≤ 4) : MC G M_X4_combOf cX4_combOf ad 54 [.ref (ad 0), .int v] h (IS (some .null) h) := by
  refine MC.of (by decide +kernel) (Nat.le_of_ble_eq_true rfl) (by dsimp only [linit, Nat.reduceSub, List.reduceReplicate] <;> rfl) ?_
  refine EV.iload_n (pc := 0) dX4_combOf_0 rfl ?_
  refine EV.iconst (pc := 1) (v := 0) dX4_combOf_1 (by decide) ?_
  refine EV.aload_n (pc := 2) dX4_combOf_2 rfl ?_
  refine EV.getf (pc := 3) dX4_combOf_3 fgX4_110 (by decide) hw.h0 rfl ?_
  refine EV.iconst (pc := 6) (v := 1) dX4_combOf_6 (by decide) ?_
  refine EV.isub (pc := 7) dX4_combOf_7 ?_
  refine EV.callSR1 (pc := 8) (M' := M_X4_within) dX4_combOf_8 lkX4_106 okS_X4_within (m_within _ _ _) (by decide) rfl rfl (Nat.le_of_ble_eq_true rfl) ?_
  refine EV.if_eq (pc := 11) (tgt := 23) dX4_combOf_11 (by decide) (fun _ => ?_) (fun q => absurd (by rw [i_l0, nI_iI, show (1 : Int32) = iI 1 from iI_lit 1, iI_sub, iI_toInt (by omega) (by omega)]; exact (b2i_0 (by omega)).symm) q)
  refine EV.null (pc := 23) dX4_combOf_23 ?_
  exact EV.nret (pc := 24) dX4_combOf_24 trivial ⟨rfl, rfl⟩

set_option maxHeartbeats 4000000 in
set_option maxRecDepth 100000 in
theorem m_caused {G : eG} {ad : Nat → Nat} {h : Nat → va_E} (k : Nat) {s : St} {z : Zc} {hm : Nat → va_E} (hw : CW G ad s z hm h) (hk : k ≤ 5) : MC G M_X4_caused cX4_caused ad 54 [.ref (ad 0), .int (nI k)] h (fun v h' => v = some (.int (-10 - nI k)) ∧ CW G ad (f_caus s k) z hm h') := by
  refine MC.of (by decide +kernel) (Nat.le_of_ble_eq_true rfl) (by dsimp only [linit, Nat.reduceSub, List.reduceReplicate] <;> rfl) ?_
  refine EV.aload_n (pc := 0) dX4_caused_0 rfl ?_
  refine EV.iload_n (pc := 1) dX4_caused_1 rfl ?_
  refine EV.putf (pc := 2) dX4_caused_2 fpX4_219 (by decide) hw.h0 rfl rfl (Nat.le_of_ble_eq_true rfl) ?_
  refine EV.abs (Pr := CW G ad (S_cs s (nI k)) z hm) (hw.set_cs (nI k)) (fun h hw => ?_)
  refine EV.aload_n (pc := 5) dX4_caused_5 rfl ?_
  refine EV.getf (pc := 6) dX4_caused_6 fgX4_33 (by decide) hw.h0 rfl ?_
  refine EV.iload_n (pc := 9) dX4_caused_9 rfl ?_
  refine EV.dup2i (pc := 10) dX4_caused_10 rfl rfl ?_
  refine EV.iald (pc := 11) dX4_caused_11 (by decide) hw.h6 (vp_in_nI (show k < 6 by omega) (by omega)) ?_
  refine EV.iconst (pc := 12) (v := 1) dX4_caused_12 (by decide) ?_
  refine EV.iadd (pc := 13) dX4_caused_13 ?_
  refine EV.iast (pc := 14) dX4_caused_14 (by decide) hw.h6 (vp_in_nI (show k < 6 by omega) (by omega)) ?_
  refine EV.abs (Pr := CW G ad (f_caus s k) z hm) (by have q := hw.set_cc k (s_cc s k + 1); rw [nI_clamp (by omega)]; exact q) (fun h hw => ?_)
  refine EV.bipush (pc := 15) (v := -10) dX4_caused_15 (by decide) ?_
  refine EV.iload_n (pc := 17) dX4_caused_17 rfl ?_
  refine EV.isub (pc := 18) dX4_caused_18 ?_
  exact EV.iret (pc := 19) dX4_caused_19 trivial ⟨rfl, hw⟩

set_option maxHeartbeats 4000000 in
set_option maxRecDepth 100000 in
theorem m_isBad {G : eG} {ad : Nat → Nat} {h : Nat → va_E} (x y : Nat) {s : St} {z : Zc} {hm : Nat → va_E} (hw : CW G ad s z hm h) (hx : x < 20) (hy : y < 20) : MC G M_X4_isBad cX4_isBad ad 54 [.ref (ad 0), .int (nI x), .int (nI y)] h (IS (some (.int (b2i (s_bad s (y * 20 + x))))) h) := by
  refine MC.of (by decide +kernel) (Nat.le_of_ble_eq_true rfl) (by dsimp only [linit, Nat.reduceSub, List.reduceReplicate] <;> rfl) ?_
  refine EV.iload_n (pc := 0) dX4_isBad_0 rfl ?_
  refine EV.iload_n (pc := 1) dX4_isBad_1 rfl ?_
  refine EV.callSR1 (pc := 2) (M' := M_X4_isCell) dX4_isBad_2 lkX4_100 okS_X4_isCell (m_isCell _ _) (by decide) rfl rfl (Nat.le_of_ble_eq_true rfl) ?_
  refine EV.if_eq (pc := 5) (tgt := 26) dX4_isBad_5 (by decide) (fun q => absurd q (fun q => b2i_F q (by rw [nI_t (by omega), nI_t (by omega)]; omega))) (fun _ => ?_)
  refine EV.aload_n (pc := 8) dX4_isBad_8 rfl ?_
  refine EV.getf (pc := 9) dX4_isBad_9 fgX4_15 (by decide) hw.h0 rfl ?_
  refine EV.iload_n (pc := 12) dX4_isBad_12 rfl ?_
  refine EV.bipush (pc := 13) (v := 20) dX4_isBad_13 (by decide) ?_
  refine EV.imul (pc := 15) dX4_isBad_15 ?_
  refine EV.iload_n (pc := 16) dX4_isBad_16 rfl ?_
  refine EV.iadd (pc := 17) dX4_isBad_17 ?_
  rw [nI_at]
  refine EV.zald (pc := 18) dX4_isBad_18 (by decide) hw.h2 (vp_in_nI (show y * 20 + x < 400 by omega) (by omega)) ?_
  refine EV.topi (y := b2i (s_bad s (y * 20 + x))) (by rw [nI_clamp (by omega)]) ?_
  refine EV.if_eq (pc := 19) (tgt := 26) dX4_isBad_19 (by decide) (fun c19 => ?_) (fun c19 => ?_)
  · refine EV.iconst (pc := 26) (v := 0) dX4_isBad_26 (by decide) ?_
    refine EV.iret (pc := 27) dX4_isBad_27 (by rfl) ?_
    exact ⟨congrArg (fun z => some (Value.int z)) (by first | (rw [b2i_ne c19]; rfl) | (rw [b2i_eq c19]; rfl)), rfl⟩
  · refine EV.iconst (pc := 22) (v := 1) dX4_isBad_22 (by decide) ?_
    refine EV.goto (pc := 23) (tgt := 27) dX4_isBad_23 (by decide) ?_
    refine EV.iret (pc := 27) dX4_isBad_27 (by rfl) ?_
    exact ⟨congrArg (fun z => some (Value.int z)) (by first | (rw [b2i_ne c19]; rfl) | (rw [b2i_eq c19]; rfl)), rfl⟩
end
section
/-! WHAT EACH CALL ANSWERS AND DOES, in plain words; class and reference are both held to these. -/
def pOk (p : Int32) : Prop := 0 ≤ p.toInt ∧ p.toInt ≤ 5
theorem pOk_dec (p : Int32) : pOk p ∨ ¬ pOk p := Classical.em _
/-- a call's end: the answer, and the new state -/
def PC (G : eG) (ad : Nat → Nat) (hm : Nat → va_E) (v : Value) (s : St) : eP := fun v' h' => v' = some v ∧ ∃ z : Zc, CW G ad s z hm h'
def PM (G : eG) (ad : Nat → Nat) (hm : Nat → va_E) (v : Value) (s : St) : eP := fun v' h' => v' = some v ∧ ∃ z : Zm, MW G ad s z hm h'
theorem PC.mk {G : eG} {ad : Nat → Nat} {hm h : Nat → va_E} {v v' : Value} {s s' : St} {z : Zc} (hv : v = v') (hs : s = s') (hw : CW G ad s z hm h) : PC G ad hm v' s' (some v) h := by subst hv; subst hs; exact ⟨rfl, z, hw⟩
theorem PM.mk {G : eG} {ad : Nat → Nat} {hm h : Nat → va_E} {v v' : Value} {s s' : St} {z : Zm} (hv : v = v') (hs : s = s') (hw : MW G ad s z hm h) : PM G ad hm v' s' (some v) h := by subst hv; subst hs; exact ⟨rfl, z, hw⟩
theorem PC.to {G : eG} {ad : Nat → Nat} {hm h : Nat → va_E} {v v' : Value} {s s' : St} {z : Zc} {r : Int32 × St} (e : (v, s) = (Value.int r.1, r.2)) (hw : CW G ad s z hm h) : PC G ad hm (.int r.1) r.2 (some v) h := by
  have e1 := (Prod.mk.inj e).1
  have e2 := (Prod.mk.inj e).2
  exact PC.mk e1 e2 hw
theorem PC.i {G : eG} {ad : Nat → Nat} {hm h : Nat → va_E} {x : Int32} {s : St} {z : Zc} {r : Int32 × St} (e : r = (x, s)) (hw : CW G ad s z hm h) : PC G ad hm (.int r.1) r.2 (some (.int x)) h := by subst e; exact ⟨rfl, z, hw⟩
theorem PM.i {G : eG} {ad : Nat → Nat} {hm h : Nat → va_E} {x : Int32} {s : St} {z : Zm} {r : Int32 × St} (e : r = (x, s)) (hw : MW G ad s z hm h) : PM G ad hm (.int r.1) r.2 (some (.int x)) h := by subst e; exact ⟨rfl, z, hw⟩
theorem nI_tn {k : Nat} (h : k < 2147483648) : (nI k).toInt.toNat = k := by rw [nI_t h]; rfl

def g_lose (s : St) (k : Nat) : Int32 × St := if s_lost s k = true then (-11, f_caus s 1) else (1, S_lost s (va_up (s_lost s) k true))
def f_lose (s : St) (p : Int32) : Int32 × St := if 0 ≤ p.toInt ∧ p.toInt ≤ 5 then g_lose s p.toInt.toNat else (-101, s)

def g_look (s : St) (k : Nat) (x y : Int32) : Int32 × St := if s_lost s k = true then (-11, f_caus s 1) else if 0 ≤ x.toInt ∧ x.toInt < s_w s k ∧ 0 ≤ y.toInt ∧ y.toInt < s_h s k then (1, S_sn s (s_ct s k (y.toInt.toNat * 20 + x.toInt.toNat))) else (-12, f_caus s 2)
def f_look (s : St) (p x y : Int32) : Int32 × St := if 0 ≤ p.toInt ∧ p.toInt ≤ 5 then g_look s p.toInt.toNat x y else (-101, s)
def g_put (s : St) (k : Nat) (lane x y v : Int32) : Int32 × St := if 0 ≤ lane.toInt ∧ lane.toInt ≤ 2 then (if s_lost s k = true then (-11, f_caus s 1) else if nI (s_lane s k) = lane then (if 0 ≤ x.toInt ∧ x.toInt < s_w s k ∧ 0 ≤ y.toInt ∧ y.toInt < s_h s k then (1, S_ct s (va_up (s_ct s) k (upd (s_ct s k) (y.toInt.toNat * 20 + x.toInt.toNat) (iCast v (nI (s_lane s k)))))) else (-12, f_caus s 2)) else (-14, f_caus s 4)) else (-102, s)
def f_put (s : St) (p lane x y v : Int32) : Int32 × St := if 0 ≤ p.toInt ∧ p.toInt ≤ 5 then g_put s p.toInt.toNat lane x y v else (-101, s)
def g_plate (s : St) (k : Nat) (lane w t : Int32) : Int32 × St := if (0 ≤ lane.toInt ∧ lane.toInt ≤ 2) ∧ w.toInt ≠ 0 ∧ w.toInt ≤ 20 ∧ t.toInt ≠ 0 ∧ t.toInt ≤ 20 then (if w.toInt < 0 ∨ t.toInt < 0 then (-13, f_caus s 3) else (w, S_ct (S_h (S_w (S_lane (S_lost s (va_up (s_lost s) k false)) (va_up (s_lane s) k lane.toInt.toNat)) (va_up (s_w s) k w.toInt.toNat)) (va_up (s_h s) k t.toInt.toNat)) (va_up (s_ct s) k (fz (s_ct s k) 400)))) else (-102, s)
def f_plate (s : St) (p lane w t : Int32) : Int32 × St := if 0 ≤ p.toInt ∧ p.toInt ≤ 5 then g_plate s p.toInt.toNat lane w t else (-101, s)
def f_bad (s : St) (x y : Int32) (b : Bool) : Int32 × St := if 0 ≤ x.toInt ∧ x.toInt ≤ 19 ∧ 0 ≤ y.toInt ∧ y.toInt ≤ 19 then (b2i (s_bad s (y.toInt.toNat * 20 + x.toInt.toNat)), S_bad s (va_up (s_bad s) (y.toInt.toNat * 20 + x.toInt.toNat) b)) else (-102, s)
def f_clear (s : St) : Int32 × St := (nI (s_lc s), S_lc s 0)
def f_causes (s : St) (c : Int32) : Int32 := if 1 ≤ c.toInt ∧ c.toInt ≤ 5 then s_cc s c.toInt.toNat else -102
def f_line (s : St) (u : Int32) : Int32 × St := if (1 ≤ u.toInt ∧ u.toInt ≤ 1000000) ∧ (s_lc s = 0 ∨ (s_ln s (s_lc s - 1)).toInt < u.toInt) then (if s_lc s < 12 then (nI (s_lc s + 1), S_lc (S_ln s (upd (s_ln s) (s_lc s) u)) (s_lc s + 1)) else (-104, s)) else (-102, s)
def f_comb (s : St) (a b r : Int32) : Int32 × St := if (0 ≤ a.toInt ∧ a.toInt ≤ 304) ∧ (0 ≤ b.toInt ∧ b.toInt ≤ 304) ∧ (0 ≤ r.toInt ∧ r.toInt ≤ 3) then (if s_cn s < 4 then (nI (s_cn s), S_cn (S_cr (S_cb (S_ca s (va_up (s_ca s) (s_cn s) a.toInt.toNat)) (va_up (s_cb s) (s_cn s) b.toInt.toNat)) (va_up (s_cr s) (s_cn s) r.toInt.toNat)) (s_cn s + 1)) else (-104, s)) else (-102, s)
def g_fact (s : St) (c : Nat) (w : Nat) : Int32 := match w with
  | 0 => nI (s_ca s c)
  | 1 => nI (s_cb s c)
  | 2 => nI (s_cr s c)
  | 3 => nI (s_co s c)
  | 4 => b2i (s_li s c)
  | 5 => s_lA s c
  | 6 => s_lB s c
  | _ => s_lF s c
def f_told (s : St) (c w : Int32) : Int32 := if 0 ≤ c.toInt ∧ c.toInt < s_cn s then (if 0 ≤ w.toInt ∧ w.toInt ≤ 7 then g_fact s c.toInt.toNat w.toInt.toNat else -102) else -101
def f_number (s : St) (c x : Int32) : Int64 := if 0 ≤ c.toInt ∧ c.toInt < s_cn s then (if 0 ≤ x.toInt ∧ x.toInt < s_co s c.toInt.toNat then lN (s_nm s c.toInt.toNat x.toInt.toNat) else -1) else -101
def g_law (s : St) (k : Nat) (a b : Int32) : Int32 × St := if (-1000000 ≤ a.toInt ∧ a.toInt ≤ 1000000) ∧ 1 ≤ b.toInt ∧ b.toInt ≤ 100000 then (if s_co s k = 0 then (-103, s) else (1, S_lF (S_lB (S_lA (S_li s (va_up (s_li s) k true)) (va_up (s_lA s) k a)) (va_up (s_lB s) k b)) (va_up (s_lF s) k 0))) else (-102, s)
def f_law (s : St) (c a b : Int32) : Int32 × St := if 0 ≤ c.toInt ∧ c.toInt < s_cn s then g_law s c.toInt.toNat a b else (-101, s)
/-- the wave of a place z under the law (a, b) -/
def wv (a b z : Int) : Int := a + b * z / 64
def f_wave (s : St) (c z : Int32) : Int32 := if 0 ≤ c.toInt ∧ c.toInt < s_cn s then (if 0 ≤ z.toInt ∧ z.toInt ≤ 2000 then (if s_li s c.toInt.toNat = true then iI (wv (s_lA s c.toInt.toNat).toInt (s_lB s c.toInt.toNat).toInt z.toInt) else -2000000002) else -2000000001) else -2000000000
def f_joined (s : St) (k : Int32) : Int64 := if 0 ≤ k.toInt ∧ k.toInt < s_gc s then s_gr s k.toInt.toNat else -1
end
section
set_option maxHeartbeats 4000000 in
set_option maxRecDepth 100000 in
theorem p_seen {G : eG} {ad : Nat → Nat} {h : Nat → va_E} {s : St} {z : Zc} {hm : Nat → va_E} (hw : CW G ad s z hm h) (hI : Inv s)   : MC G M_X4_seen cX4_seen ad 54 [.ref (ad 0)] h (PC G ad hm (.int (s_sn s)) s) := by
  refine MC.of (by decide +kernel) (Nat.le_of_ble_eq_true rfl) (by dsimp only [linit, Nat.reduceSub, List.reduceReplicate] <;> rfl) ?_
  refine EV.aload_n (pc := 0) dX4_seen_0 rfl ?_
  refine EV.getf (pc := 1) dX4_seen_1 fgX4_103 (by decide) hw.h0 rfl ?_
  exact EV.iret (pc := 4) dX4_seen_4 trivial ⟨rfl, z, hw⟩

set_option maxHeartbeats 4000000 in
set_option maxRecDepth 100000 in
theorem p_cause {G : eG} {ad : Nat → Nat} {h : Nat → va_E} {s : St} {z : Zc} {hm : Nat → va_E} (hw : CW G ad s z hm h) (hI : Inv s)   : MC G M_X4_cause cX4_cause ad 54 [.ref (ad 0)] h (PC G ad hm (.int (s_cs s)) s) := by
  refine MC.of (by decide +kernel) (Nat.le_of_ble_eq_true rfl) (by dsimp only [linit, Nat.reduceSub, List.reduceReplicate] <;> rfl) ?_
  refine EV.aload_n (pc := 0) dX4_cause_0 rfl ?_
  refine EV.getf (pc := 1) dX4_cause_1 fgX4_219 (by decide) hw.h0 rfl ?_
  exact EV.iret (pc := 4) dX4_cause_4 trivial ⟨rfl, z, hw⟩

set_option maxHeartbeats 4000000 in
set_option maxRecDepth 100000 in
theorem p_clear {G : eG} {ad : Nat → Nat} {h : Nat → va_E} {s : St} {z : Zc} {hm : Nat → va_E} (hw : CW G ad s z hm h) (hI : Inv s)   : MC G M_X4_clear cX4_clear ad 54 [.ref (ad 0)] h (PC G ad hm (.int (f_clear s).1) (f_clear s).2) := by
  refine MC.of (by decide +kernel) (Nat.le_of_ble_eq_true rfl) (by dsimp only [linit, Nat.reduceSub, List.reduceReplicate] <;> rfl) ?_
  refine EV.aload_n (pc := 0) dX4_clear_0 rfl ?_
  refine EV.getf (pc := 1) dX4_clear_1 fgX4_172 (by decide) hw.h0 rfl ?_
  refine EV.istore_n (pc := 4) 1 dX4_clear_4 rfl (by decide) (by dsimp only [lst1, lk] <;> rfl) ?_
  refine EV.aload_n (pc := 5) dX4_clear_5 rfl ?_
  refine EV.iconst (pc := 6) (v := 0) dX4_clear_6 (by decide) ?_
  refine EV.putf (pc := 7) dX4_clear_7 fpX4_172 (by decide) hw.h0 rfl rfl (Nat.le_of_ble_eq_true rfl) ?_
  refine EV.abs (Pr := CW G ad (S_lc s 0) z hm) (hw.set_lc 0) (fun h hw => ?_)
  refine EV.iload_n (pc := 10) dX4_clear_10 rfl ?_
  exact EV.iret (pc := 11) dX4_clear_11 trivial ⟨rfl, z, hw⟩

set_option maxHeartbeats 4000000 in
set_option maxRecDepth 100000 in
theorem p_causes {G : eG} {ad : Nat → Nat} {h : Nat → va_E} {s : St} {z : Zc} {hm : Nat → va_E} (hw : CW G ad s z hm h) (hI : Inv s) (c : Int32)  : MC G M_X4_causes cX4_causes ad 54 [.ref (ad 0), .int c] h (PC G ad hm (.int (f_causes s c)) s) := by
  refine MC.of (by decide +kernel) (Nat.le_of_ble_eq_true rfl) (by dsimp only [linit, Nat.reduceSub, List.reduceReplicate] <;> rfl) ?_
  have e5 : (5 : Int32).toInt = 5 := i_l5
  refine EV.iload_n (pc := 0) dX4_causes_0 rfl ?_
  refine EV.iconst (pc := 1) (v := 1) dX4_causes_1 (by decide) ?_
  refine EV.iconst (pc := 2) (v := 5) dX4_causes_2 (by decide) ?_
  refine EV.callSR1 (pc := 3) (M' := M_X4_within) dX4_causes_3 lkX4_106 okS_X4_within (m_within _ _ _) (by decide) rfl rfl (Nat.le_of_ble_eq_true rfl) ?_
  refine EV.if_eq (pc := 6) (tgt := 18) dX4_causes_6 (by decide) (fun c6 => ?_) (fun c6 => ?_)
  · replace c6 := b2i_F c6
    refine EV.bipush (pc := 18) (v := -102) dX4_causes_18 (by decide) ?_
    refine EV.iret (pc := 20) dX4_causes_20 trivial ?_
    refine ⟨congrArg (fun z => some (Value.int z)) ?_, z, hw⟩
    simp only [i_l1, i_l5] at *
    unfold f_causes
    first | (rw [if_pos (by assumption)]; rfl) | (rw [if_neg (by assumption)])
  · replace c6 := b2i_T c6
    refine EV.aload_n (pc := 9) dX4_causes_9 rfl ?_
    refine EV.getf (pc := 10) dX4_causes_10 fgX4_33 (by decide) hw.h0 rfl ?_
    refine EV.iload_n (pc := 13) dX4_causes_13 rfl ?_
    refine EV.iald (pc := 14) dX4_causes_14 (by decide) hw.h6 (by rw [vp_in_iff]; simp only [i_l1, i_l5] at *; omega) ?_
    refine EV.goto (pc := 15) (tgt := 20) dX4_causes_15 (by decide) ?_
    refine EV.iret (pc := 20) dX4_causes_20 trivial ?_
    refine ⟨congrArg (fun z => some (Value.int z)) ?_, z, hw⟩
    simp only [i_l1, i_l5] at *
    unfold f_causes
    first | (rw [if_pos (by assumption)]; rfl) | (rw [if_neg (by assumption)])

set_option maxHeartbeats 4000000 in
set_option maxRecDepth 100000 in
theorem p_lose {G : eG} {ad : Nat → Nat} {h : Nat → va_E} {s : St} {z : Zc} {hm : Nat → va_E} (hw : CW G ad s z hm h) (hI : Inv s) (p : Int32)   : MC G M_X4_lose cX4_lose ad 54 [.ref (ad 0), .int p] h (PC G ad hm (.int (f_lose s p).1) (f_lose s p).2) := by
  by_cases hp : 0 ≤ p.toInt ∧ p.toInt ≤ 5
  · obtain ⟨k, rfl, ek, lk⟩ := i_nat hp.1
    have hk : k < 6 := by omega
    have e0 : f_lose s (nI k)  = g_lose s k  := by unfold f_lose; rw [if_pos hp, nI_tn (by omega)]
    rw [e0]
    obtain ⟨hI1, hI2, hI3, hI4, hI5, hI6, hI7, hI8, hI9, hI10, hI11, hI12, hI13⟩ := hI
    have hd := hI1 k hk
    refine MC.of (by decide +kernel) (Nat.le_of_ble_eq_true rfl) (by dsimp only [linit, Nat.reduceSub, List.reduceReplicate] <;> rfl) ?_
    refine EV.aload_n (pc := 0) dX4_lose_0 rfl ?_
    refine EV.iload_n (pc := 1) dX4_lose_1 rfl ?_
    refine EV.callVR1 (pc := 2) (M' := M_X4_plateOf) dX4_lose_2 lkX4_55 okV_X4_plateOf (m_plateOf k hw hk) (by decide) rfl rfl (Nat.le_of_ble_eq_true rfl) (by decide) hw.h0 ?_
    refine EV.astore_n (pc := 5) 2 dX4_lose_5 rfl (by decide) (by dsimp only [lst1, lk] <;> rfl) ?_
    refine EV.aload_n (pc := 6) dX4_lose_6 rfl ?_
    refine EV.ifnonnull (pc := 7) (tgt := 13) dX4_lose_7 (by decide) ?_
    refine EV.aload_n (pc := 13) dX4_lose_13 rfl ?_
    refine EV.getf (pc := 14) dX4_lose_14 fgX4_71 (show 10 + 2 * k < 54 by omega) (hw.pl' hk) rfl ?_
    refine EV.if_eq (pc := 17) (tgt := 26) dX4_lose_17 (by decide) (fun c17 => ?_) (fun c17 => ?_)
    · replace c17 := b2i_eq c17
      refine EV.aload_n (pc := 26) dX4_lose_26 rfl ?_
      refine EV.iconst (pc := 27) (v := 1) dX4_lose_27 (by decide) ?_
      refine EV.putf (pc := 28) dX4_lose_28 fpX4_71 (show 10 + 2 * k < 54 by omega) (hw.pl' hk) rfl rfl (Nat.le_of_ble_eq_true rfl) ?_
      refine EV.abs (Pr := CW G ad (S_lost s (va_up (s_lost s) k true)) z hm) (hw.set_lost k true hk) (fun h hw => ?_)
      refine EV.iconst (pc := 31) (v := 1) dX4_lose_31 (by decide) ?_
      refine EV.iret (pc := 32) dX4_lose_32 trivial ?_
      exact PC.i (by unfold g_lose; simp [c17]) hw
    · replace c17 := b2i_ne c17
      refine EV.aload_n (pc := 20) dX4_lose_20 rfl ?_
      refine EV.iconst (pc := 21) (v := 1) dX4_lose_21 (by decide) ?_
      refine EV.callVPi (pc := 22) (M' := M_X4_caused) dX4_lose_22 lkX4_63 okV_X4_caused (m_caused 1 hw (by omega)) (by decide) rfl rfl (Nat.le_of_ble_eq_true rfl) (by decide) hw.h0 (fun h hw => ?_)
      refine EV.topi (y := -11) (by decide +kernel) ?_
      refine EV.iret (pc := 25) dX4_lose_25 trivial ?_
      exact PC.i (by unfold g_lose; simp [c17]) hw
  · have e0 : f_lose s p  = (-101, s) := by unfold f_lose; rw [if_neg hp]
    rw [e0]
    refine MC.of (by decide +kernel) (Nat.le_of_ble_eq_true rfl) (by dsimp only [linit, Nat.reduceSub, List.reduceReplicate] <;> rfl) ?_
    refine EV.aload_n (pc := 0) dX4_lose_0 rfl ?_
    refine EV.iload_n (pc := 1) dX4_lose_1 rfl ?_
    refine EV.callVR1 (pc := 2) (M' := M_X4_plateOf) dX4_lose_2 lkX4_55 okV_X4_plateOf (m_plateOfN p hw hp) (by decide) rfl rfl (Nat.le_of_ble_eq_true rfl) (by decide) hw.h0 ?_
    refine EV.astoreN_n (pc := 5) 2 dX4_lose_5 rfl (by decide) (by dsimp only [lst1, lk] <;> rfl) ?_
    refine EV.aloadN_n (pc := 6) dX4_lose_6 rfl ?_
    refine EV.ifnonnullN (pc := 7) dX4_lose_7 ?_
    refine EV.bipush (pc := 10) (v := -101) dX4_lose_10 (by decide) ?_
    exact EV.iret (pc := 12) dX4_lose_12 trivial ⟨rfl, z, hw⟩

set_option maxHeartbeats 4000000 in
set_option maxRecDepth 100000 in
theorem p_look {G : eG} {ad : Nat → Nat} {h : Nat → va_E} {s : St} {z : Zc} {hm : Nat → va_E} (hw : CW G ad s z hm h) (hI : Inv s) (p : Int32) (x y : Int32)  : MC G M_X4_look cX4_look ad 54 [.ref (ad 0), .int p, .int x, .int y] h (PC G ad hm (.int (f_look s p x y).1) (f_look s p x y).2) := by
  by_cases hp : 0 ≤ p.toInt ∧ p.toInt ≤ 5
  · obtain ⟨k, rfl, ek, lk⟩ := i_nat hp.1
    have hk : k < 6 := by omega
    have e0 : f_look s (nI k) x y = g_look s k x y := by unfold f_look; rw [if_pos hp, nI_tn (by omega)]
    rw [e0]
    obtain ⟨hI1, hI2, hI3, hI4, hI5, hI6, hI7, hI8, hI9, hI10, hI11, hI12, hI13⟩ := hI
    have hd := hI1 k hk
    refine MC.of (by decide +kernel) (Nat.le_of_ble_eq_true rfl) (by dsimp only [linit, Nat.reduceSub, List.reduceReplicate] <;> rfl) ?_
    refine EV.aload_n (pc := 0) dX4_look_0 rfl ?_
    refine EV.iload_n (pc := 1) dX4_look_1 rfl ?_
    refine EV.callVR1 (pc := 2) (M' := M_X4_plateOf) dX4_look_2 lkX4_55 okV_X4_plateOf (m_plateOf k hw hk) (by decide) rfl rfl (Nat.le_of_ble_eq_true rfl) (by decide) hw.h0 ?_
    refine EV.astore (pc := 5) dX4_look_5 (by decide) (by dsimp only [lst1, lk] <;> rfl) ?_
    refine EV.aload (pc := 7) dX4_look_7 rfl ?_
    refine EV.ifnonnull (pc := 9) (tgt := 15) dX4_look_9 (by decide) ?_
    refine EV.aload (pc := 15) dX4_look_15 rfl ?_
    refine EV.getf (pc := 17) dX4_look_17 fgX4_71 (show 10 + 2 * k < 54 by omega) (hw.pl' hk) rfl ?_
    refine EV.if_eq (pc := 20) (tgt := 29) dX4_look_20 (by decide) (fun c20 => ?_) (fun c20 => ?_)
    · replace c20 := b2i_eq c20
      refine EV.aload (pc := 29) dX4_look_29 rfl ?_
      refine EV.iload_n (pc := 31) dX4_look_31 rfl ?_
      refine EV.iload_n (pc := 32) dX4_look_32 rfl ?_
      refine EV.callVR1 (pc := 33) (M' := M_X2_holds) dX4_look_33 lkX4_79 okV_X2_holds (m_holds (10 + 2 * k) (b2i (s_lost s k)) (s_lane s k) (s_w s k) (s_h s k) _ _ _ (by omega) hd.1 hd.2.1 (hw.pl' hk)) (by decide) rfl rfl (Nat.le_of_ble_eq_true rfl) (show 10 + 2 * k < 54 by omega) (hw.pl' hk) ?_
      refine EV.if_ne (pc := 36) (tgt := 45) dX4_look_36 (by decide) (fun c36 => ?_) (fun c36 => ?_)
      · replace c36 := b2i_T c36
        refine EV.aload_n (pc := 45) dX4_look_45 rfl ?_
        refine EV.aload (pc := 46) dX4_look_46 rfl ?_
        refine EV.iload_n (pc := 48) dX4_look_48 rfl ?_
        refine EV.iload_n (pc := 49) dX4_look_49 rfl ?_
        refine EV.callVR1 (pc := 50) (M' := M_X2_at) dX4_look_50 lkX4_96 okV_X2_at (m_pat (10 + 2 * k) (11 + 2 * k) (b2i (s_lost s k)) (s_lane s k) (s_w s k) (s_h s k) (s_ct s k) _ _ (by omega) (by omega) hd.1 hd.2.1 (hw.pl' hk) (hw.ct k hk)) (by decide) rfl rfl (Nat.le_of_ble_eq_true rfl) (show 10 + 2 * k < 54 by omega) (hw.pl' hk) ?_
        refine EV.putf (pc := 53) dX4_look_53 fpX4_103 (by decide) hw.h0 rfl rfl (Nat.le_of_ble_eq_true rfl) ?_
        refine EV.abs (Pr := CW G ad (S_sn s (pAt (s_ct s k) (s_w s k) (s_h s k) x.toInt y.toInt)) z hm) (hw.set_sn _) (fun h hw => ?_)
        refine EV.iconst (pc := 56) (v := 1) dX4_look_56 (by decide) ?_
        refine EV.iret (pc := 57) dX4_look_57 trivial ?_
        exact PC.i (by unfold g_look; rw [if_neg (by simp [c20]), if_pos c36]; unfold pAt; rw [if_pos c36]) hw
      · replace c36 := b2i_F c36
        refine EV.aload_n (pc := 39) dX4_look_39 rfl ?_
        refine EV.iconst (pc := 40) (v := 2) dX4_look_40 (by decide) ?_
        refine EV.callVPi (pc := 41) (M' := M_X4_caused) dX4_look_41 lkX4_63 okV_X4_caused (m_caused 2 hw (by omega)) (by decide) rfl rfl (Nat.le_of_ble_eq_true rfl) (by decide) hw.h0 (fun h hw => ?_)
        refine EV.topi (y := -12) (by decide +kernel) ?_
        refine EV.iret (pc := 44) dX4_look_44 trivial ?_
        exact PC.i (by unfold g_look; simp [c20, c36]) hw
    · replace c20 := b2i_ne c20
      refine EV.aload_n (pc := 23) dX4_look_23 rfl ?_
      refine EV.iconst (pc := 24) (v := 1) dX4_look_24 (by decide) ?_
      refine EV.callVPi (pc := 25) (M' := M_X4_caused) dX4_look_25 lkX4_63 okV_X4_caused (m_caused 1 hw (by omega)) (by decide) rfl rfl (Nat.le_of_ble_eq_true rfl) (by decide) hw.h0 (fun h hw => ?_)
      refine EV.topi (y := -11) (by decide +kernel) ?_
      refine EV.iret (pc := 28) dX4_look_28 trivial ?_
      exact PC.i (by unfold g_look; simp [c20]) hw
  · have e0 : f_look s p x y = (-101, s) := by unfold f_look; rw [if_neg hp]
    rw [e0]
    refine MC.of (by decide +kernel) (Nat.le_of_ble_eq_true rfl) (by dsimp only [linit, Nat.reduceSub, List.reduceReplicate] <;> rfl) ?_
    refine EV.aload_n (pc := 0) dX4_look_0 rfl ?_
    refine EV.iload_n (pc := 1) dX4_look_1 rfl ?_
    refine EV.callVR1 (pc := 2) (M' := M_X4_plateOf) dX4_look_2 lkX4_55 okV_X4_plateOf (m_plateOfN p hw hp) (by decide) rfl rfl (Nat.le_of_ble_eq_true rfl) (by decide) hw.h0 ?_
    refine EV.astoreN (pc := 5) dX4_look_5 (by decide) (by dsimp only [lst1, lk] <;> rfl) ?_
    refine EV.aloadN (pc := 7) dX4_look_7 rfl ?_
    refine EV.ifnonnullN (pc := 9) dX4_look_9 ?_
    refine EV.bipush (pc := 12) (v := -101) dX4_look_12 (by decide) ?_
    exact EV.iret (pc := 14) dX4_look_14 trivial ⟨rfl, z, hw⟩

set_option maxHeartbeats 4000000 in
set_option maxRecDepth 100000 in
theorem p_put {G : eG} {ad : Nat → Nat} {h : Nat → va_E} {s : St} {z : Zc} {hm : Nat → va_E} (hw : CW G ad s z hm h) (hI : Inv s) (p : Int32) (lane x y v : Int32)  : MC G M_X4_put cX4_put ad 54 [.ref (ad 0), .int p, .int lane, .int x, .int y, .int v] h (PC G ad hm (.int (f_put s p lane x y v).1) (f_put s p lane x y v).2) := by
  by_cases hp : 0 ≤ p.toInt ∧ p.toInt ≤ 5
  · obtain ⟨k, rfl, ek, lk⟩ := i_nat hp.1
    have hk : k < 6 := by omega
    have e0 : f_put s (nI k) lane x y v = g_put s k lane x y v := by unfold f_put; rw [if_pos hp, nI_tn (by omega)]
    rw [e0]
    obtain ⟨hI1, hI2, hI3, hI4, hI5, hI6, hI7, hI8, hI9, hI10, hI11, hI12, hI13⟩ := hI
    have hd := hI1 k hk
    refine MC.of (by decide +kernel) (Nat.le_of_ble_eq_true rfl) (by dsimp only [linit, Nat.reduceSub, List.reduceReplicate] <;> rfl) ?_
    refine EV.aload_n (pc := 0) dX4_put_0 rfl ?_
    refine EV.iload_n (pc := 1) dX4_put_1 rfl ?_
    refine EV.callVR1 (pc := 2) (M' := M_X4_plateOf) dX4_put_2 lkX4_55 okV_X4_plateOf (m_plateOf k hw hk) (by decide) rfl rfl (Nat.le_of_ble_eq_true rfl) (by decide) hw.h0 ?_
    refine EV.astore (pc := 5) dX4_put_5 (by decide) (by dsimp only [lst1, lk] <;> rfl) ?_
    refine EV.aload (pc := 7) dX4_put_7 rfl ?_
    refine EV.ifnonnull (pc := 9) (tgt := 15) dX4_put_9 (by decide) ?_
    refine EV.iload_n (pc := 15) dX4_put_15 rfl ?_
    refine EV.callSR1 (pc := 16) (M' := M_X4_isLane) dX4_put_16 lkX4_59 okS_X4_isLane (m_isLane _) (by decide) rfl rfl (Nat.le_of_ble_eq_true rfl) ?_
    refine EV.if_ne (pc := 19) (tgt := 25) dX4_put_19 (by decide) (fun c19 => ?_) (fun c19 => ?_)
    · replace c19 := b2i_T c19
      refine EV.aload (pc := 25) dX4_put_25 rfl ?_
      refine EV.getf (pc := 27) dX4_put_27 fgX4_71 (show 10 + 2 * k < 54 by omega) (hw.pl' hk) rfl ?_
      refine EV.if_eq (pc := 30) (tgt := 39) dX4_put_30 (by decide) (fun c30 => ?_) (fun c30 => ?_)
      · replace c30 := b2i_eq c30
        refine EV.aload (pc := 39) dX4_put_39 rfl ?_
        refine EV.getf (pc := 41) dX4_put_41 fgX4_75 (show 10 + 2 * k < 54 by omega) (hw.pl' hk) rfl ?_
        refine EV.iload_n (pc := 44) dX4_put_44 rfl ?_
        refine EV.icmp_eq (pc := 45) (tgt := 54) dX4_put_45 (by decide) (fun c45 => ?_) (fun c45 => ?_)
        · refine EV.aload (pc := 54) dX4_put_54 rfl ?_
          refine EV.iload_n (pc := 56) dX4_put_56 rfl ?_
          refine EV.iload (pc := 57) dX4_put_57 rfl ?_
          refine EV.callVR1 (pc := 59) (M' := M_X2_holds) dX4_put_59 lkX4_79 okV_X2_holds (m_holds (10 + 2 * k) (b2i (s_lost s k)) (s_lane s k) (s_w s k) (s_h s k) _ _ _ (by omega) hd.1 hd.2.1 (hw.pl' hk)) (by decide) rfl rfl (Nat.le_of_ble_eq_true rfl) (show 10 + 2 * k < 54 by omega) (hw.pl' hk) ?_
          refine EV.if_ne (pc := 62) (tgt := 71) dX4_put_62 (by decide) (fun c62 => ?_) (fun c62 => ?_)
          · replace c62 := b2i_T c62
            refine EV.aload (pc := 71) dX4_put_71 rfl ?_
            refine EV.iload_n (pc := 73) dX4_put_73 rfl ?_
            refine EV.iload (pc := 74) dX4_put_74 rfl ?_
            refine EV.iload (pc := 76) dX4_put_76 rfl ?_
            refine EV.callVR0 (pc := 78) (M' := M_X2_set) dX4_put_78 lkX4_83 okV_X2_set (m_pset (10 + 2 * k) (11 + 2 * k) (b2i (s_lost s k)) (s_lane s k) (s_w s k) (s_h s k) (s_ct s k) _ _ _ (by omega) (by omega) hd.1 hd.2.1 (hw.pl' hk) (hw.ct k hk) c62) (by decide) rfl rfl (Nat.le_of_ble_eq_true rfl) (show 10 + 2 * k < 54 by omega) (hw.pl' hk) ?_
            refine EV.abs (Pr := CW G ad (S_ct s (va_up (s_ct s) k (upd (s_ct s k) (y.toInt.toNat * 20 + x.toInt.toNat) (iCast v (nI (s_lane s k)))))) z hm) (hw.set_ct k _ hk) (fun h hw => ?_)
            refine EV.iconst (pc := 81) (v := 1) dX4_put_81 (by decide) ?_
            refine EV.iret (pc := 82) dX4_put_82 trivial ?_
            exact PC.i (by unfold g_put; rw [if_pos c19, if_neg (by simp [c30]), if_pos c45, if_pos c62]) hw
          · replace c62 := b2i_F c62
            refine EV.aload_n (pc := 65) dX4_put_65 rfl ?_
            refine EV.iconst (pc := 66) (v := 2) dX4_put_66 (by decide) ?_
            refine EV.callVPi (pc := 67) (M' := M_X4_caused) dX4_put_67 lkX4_63 okV_X4_caused (m_caused 2 hw (by omega)) (by decide) rfl rfl (Nat.le_of_ble_eq_true rfl) (by decide) hw.h0 (fun h hw => ?_)
            refine EV.topi (y := -12) (by decide +kernel) ?_
            refine EV.iret (pc := 70) dX4_put_70 trivial ?_
            exact PC.i (by unfold g_put; rw [if_pos c19, if_neg (by simp [c30]), if_pos c45, if_neg c62]) hw
        · refine EV.aload_n (pc := 48) dX4_put_48 rfl ?_
          refine EV.iconst (pc := 49) (v := 4) dX4_put_49 (by decide) ?_
          refine EV.callVPi (pc := 50) (M' := M_X4_caused) dX4_put_50 lkX4_63 okV_X4_caused (m_caused 4 hw (by omega)) (by decide) rfl rfl (Nat.le_of_ble_eq_true rfl) (by decide) hw.h0 (fun h hw => ?_)
          refine EV.topi (y := -14) (by decide +kernel) ?_
          refine EV.iret (pc := 53) dX4_put_53 trivial ?_
          exact PC.i (by unfold g_put; rw [if_pos c19, if_neg (by simp [c30]), if_neg c45]) hw
      · replace c30 := b2i_ne c30
        refine EV.aload_n (pc := 33) dX4_put_33 rfl ?_
        refine EV.iconst (pc := 34) (v := 1) dX4_put_34 (by decide) ?_
        refine EV.callVPi (pc := 35) (M' := M_X4_caused) dX4_put_35 lkX4_63 okV_X4_caused (m_caused 1 hw (by omega)) (by decide) rfl rfl (Nat.le_of_ble_eq_true rfl) (by decide) hw.h0 (fun h hw => ?_)
        refine EV.topi (y := -11) (by decide +kernel) ?_
        refine EV.iret (pc := 38) dX4_put_38 trivial ?_
        exact PC.i (by unfold g_put; rw [if_pos c19, if_pos c30]) hw
    · replace c19 := b2i_F c19
      refine EV.bipush (pc := 22) (v := -102) dX4_put_22 (by decide) ?_
      refine EV.iret (pc := 24) dX4_put_24 trivial ?_
      exact PC.i (by unfold g_put; rw [if_neg c19]) hw
  · have e0 : f_put s p lane x y v = (-101, s) := by unfold f_put; rw [if_neg hp]
    rw [e0]
    refine MC.of (by decide +kernel) (Nat.le_of_ble_eq_true rfl) (by dsimp only [linit, Nat.reduceSub, List.reduceReplicate] <;> rfl) ?_
    refine EV.aload_n (pc := 0) dX4_put_0 rfl ?_
    refine EV.iload_n (pc := 1) dX4_put_1 rfl ?_
    refine EV.callVR1 (pc := 2) (M' := M_X4_plateOf) dX4_put_2 lkX4_55 okV_X4_plateOf (m_plateOfN p hw hp) (by decide) rfl rfl (Nat.le_of_ble_eq_true rfl) (by decide) hw.h0 ?_
    refine EV.astoreN (pc := 5) dX4_put_5 (by decide) (by dsimp only [lst1, lk] <;> rfl) ?_
    refine EV.aloadN (pc := 7) dX4_put_7 rfl ?_
    refine EV.ifnonnullN (pc := 9) dX4_put_9 ?_
    refine EV.bipush (pc := 12) (v := -101) dX4_put_12 (by decide) ?_
    exact EV.iret (pc := 14) dX4_put_14 trivial ⟨rfl, z, hw⟩
end
