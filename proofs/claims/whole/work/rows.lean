section
-- ===== PART A: goes FIRST, ahead of the names: the tables' words, and 'selects' of the private methods out of them =====
/-- a private method of a class that the tables say can be made, by its rows of tables_1 -/
def lw_okq (q : MethodName × Nat) : Prop := (q.1.cls ≠ "java/lang/invoke/MethodHandle" ∧ q.1.cls ≠ "java/lang/invoke/VarHandle") ∧ Cond.instantiable q.1.cls q.2 ∈ tables_1 ∧ Cond.privateMethod q.1 ∈ tables_1 ∧ Cond.instanceMethod q.1 ∈ tables_1
theorem lw_p0 : lw_okq (⟨"BarrelTaps", "failBy", "(I)I"⟩, 6) := ⟨⟨by decide +kernel, by decide +kernel⟩, List.mem_of_getElem? (i := 12) (by decide +kernel), List.mem_of_getElem? (i := 202) (by decide +kernel), List.mem_of_getElem? (i := 203) (by decide +kernel)⟩
theorem lw_p1 : lw_okq (⟨"BarrelTaps", "noTap", "(I)Z"⟩, 6) := ⟨⟨by decide +kernel, by decide +kernel⟩, List.mem_of_getElem? (i := 12) (by decide +kernel), List.mem_of_getElem? (i := 235) (by decide +kernel), List.mem_of_getElem? (i := 236) (by decide +kernel)⟩
theorem lw_p2 : lw_okq (⟨"BarrelTaps", "noYard", "()Z"⟩, 6) := ⟨⟨by decide +kernel, by decide +kernel⟩, List.mem_of_getElem? (i := 12) (by decide +kernel), List.mem_of_getElem? (i := 251) (by decide +kernel), List.mem_of_getElem? (i := 252) (by decide +kernel)⟩
theorem lw_p3 : lw_okq (⟨"BarrelTaps", "passAsTold", "(I)V"⟩, 6) := ⟨⟨by decide +kernel, by decide +kernel⟩, List.mem_of_getElem? (i := 12) (by decide +kernel), List.mem_of_getElem? (i := 274) (by decide +kernel), List.mem_of_getElem? (i := 275) (by decide +kernel)⟩
theorem lw_p4 : lw_okq (⟨"BarrelTaps$Days", "drawsBefore", "(II)Z"⟩, 6) := ⟨⟨by decide +kernel, by decide +kernel⟩, List.mem_of_getElem? (i := 97) (by decide +kernel), List.mem_of_getElem? (i := 282) (by decide +kernel), List.mem_of_getElem? (i := 283) (by decide +kernel)⟩
theorem lw_p5 : lw_okq (⟨"BarrelTaps$Days", "drawByTurns", "(II)I"⟩, 6) := ⟨⟨by decide +kernel, by decide +kernel⟩, List.mem_of_getElem? (i := 97) (by decide +kernel), List.mem_of_getElem? (i := 297) (by decide +kernel), List.mem_of_getElem? (i := 298) (by decide +kernel)⟩
theorem lw_p6 : lw_okq (⟨"BarrelTaps$Days", "draw", "(IIII)I"⟩, 6) := ⟨⟨by decide +kernel, by decide +kernel⟩, List.mem_of_getElem? (i := 97) (by decide +kernel), List.mem_of_getElem? (i := 307) (by decide +kernel), List.mem_of_getElem? (i := 308) (by decide +kernel)⟩
theorem lw_p7 : lw_okq (⟨"BarrelTaps$Days", "drawInOrder", "(II)I"⟩, 6) := ⟨⟨by decide +kernel, by decide +kernel⟩, List.mem_of_getElem? (i := 97) (by decide +kernel), List.mem_of_getElem? (i := 315) (by decide +kernel), List.mem_of_getElem? (i := 316) (by decide +kernel)⟩
theorem lw_p8 : lw_okq (⟨"BarrelTaps$Days", "isDry", "(II)Z"⟩, 6) := ⟨⟨by decide +kernel, by decide +kernel⟩, List.mem_of_getElem? (i := 97) (by decide +kernel), List.mem_of_getElem? (i := 350) (by decide +kernel), List.mem_of_getElem? (i := 351) (by decide +kernel)⟩
theorem lw_p9 : lw_okq (⟨"BarrelTaps", "marksHoldBehind", "(I)Z"⟩, 6) := ⟨⟨by decide +kernel, by decide +kernel⟩, List.mem_of_getElem? (i := 12) (by decide +kernel), List.mem_of_getElem? (i := 413) (by decide +kernel), List.mem_of_getElem? (i := 414) (by decide +kernel)⟩
theorem lw_p10 : lw_okq (⟨"BarrelTaps", "oldestTells", "(LBarrelTaps$Tap;)I"⟩, 6) := ⟨⟨by decide +kernel, by decide +kernel⟩, List.mem_of_getElem? (i := 12) (by decide +kernel), List.mem_of_getElem? (i := 466) (by decide +kernel), List.mem_of_getElem? (i := 467) (by decide +kernel)⟩
theorem lw_p11 : lw_okq (⟨"BarrelTaps", "leaveTrace", "(I)V"⟩, 6) := ⟨⟨by decide +kernel, by decide +kernel⟩, List.mem_of_getElem? (i := 12) (by decide +kernel), List.mem_of_getElem? (i := 470) (by decide +kernel), List.mem_of_getElem? (i := 471) (by decide +kernel)⟩
theorem lw_p12 : lw_okq (⟨"BarrelTaps", "greedyTells", "(LBarrelTaps$Tap;)I"⟩, 6) := ⟨⟨by decide +kernel, by decide +kernel⟩, List.mem_of_getElem? (i := 12) (by decide +kernel), List.mem_of_getElem? (i := 474) (by decide +kernel), List.mem_of_getElem? (i := 475) (by decide +kernel)⟩
theorem lw_p13 : lw_okq (⟨"BarrelTaps", "familyTells", "(LBarrelTaps$Tap;)I"⟩, 6) := ⟨⟨by decide +kernel, by decide +kernel⟩, List.mem_of_getElem? (i := 12) (by decide +kernel), List.mem_of_getElem? (i := 478) (by decide +kernel), List.mem_of_getElem? (i := 479) (by decide +kernel)⟩
theorem lw_p14 : lw_okq (⟨"BarrelTapsModel", "against", "(IIII)I"⟩, 38) := ⟨⟨by decide +kernel, by decide +kernel⟩, List.mem_of_getElem? (i := 502) (by decide +kernel), List.mem_of_getElem? (i := 637) (by decide +kernel), List.mem_of_getElem? (i := 638) (by decide +kernel)⟩
theorem lw_p15 : lw_okq (⟨"BarrelTapsModel", "fails", "(I)I"⟩, 38) := ⟨⟨by decide +kernel, by decide +kernel⟩, List.mem_of_getElem? (i := 502) (by decide +kernel), List.mem_of_getElem? (i := 641) (by decide +kernel), List.mem_of_getElem? (i := 642) (by decide +kernel)⟩
def lw_privs_1 : List (MethodName × Nat) := [(⟨"BarrelTaps", "failBy", "(I)I"⟩, 6), (⟨"BarrelTaps", "noTap", "(I)Z"⟩, 6), (⟨"BarrelTaps", "noYard", "()Z"⟩, 6), (⟨"BarrelTaps", "passAsTold", "(I)V"⟩, 6), (⟨"BarrelTaps$Days", "drawsBefore", "(II)Z"⟩, 6), (⟨"BarrelTaps$Days", "drawByTurns", "(II)I"⟩, 6), (⟨"BarrelTaps$Days", "draw", "(IIII)I"⟩, 6), (⟨"BarrelTaps$Days", "drawInOrder", "(II)I"⟩, 6), (⟨"BarrelTaps$Days", "isDry", "(II)Z"⟩, 6), (⟨"BarrelTaps", "marksHoldBehind", "(I)Z"⟩, 6), (⟨"BarrelTaps", "oldestTells", "(LBarrelTaps$Tap;)I"⟩, 6), (⟨"BarrelTaps", "leaveTrace", "(I)V"⟩, 6), (⟨"BarrelTaps", "greedyTells", "(LBarrelTaps$Tap;)I"⟩, 6), (⟨"BarrelTaps", "familyTells", "(LBarrelTaps$Tap;)I"⟩, 6), (⟨"BarrelTapsModel", "against", "(IIII)I"⟩, 38), (⟨"BarrelTapsModel", "fails", "(I)I"⟩, 38)]
theorem lw_r1 : ∀ q ∈ lw_privs_1, lw_okq q := List.forall_mem_cons.mpr ⟨lw_p0, List.forall_mem_cons.mpr ⟨lw_p1, List.forall_mem_cons.mpr ⟨lw_p2, List.forall_mem_cons.mpr ⟨lw_p3, List.forall_mem_cons.mpr ⟨lw_p4, List.forall_mem_cons.mpr ⟨lw_p5, List.forall_mem_cons.mpr ⟨lw_p6, List.forall_mem_cons.mpr ⟨lw_p7, List.forall_mem_cons.mpr ⟨lw_p8, List.forall_mem_cons.mpr ⟨lw_p9, List.forall_mem_cons.mpr ⟨lw_p10, List.forall_mem_cons.mpr ⟨lw_p11, List.forall_mem_cons.mpr ⟨lw_p12, List.forall_mem_cons.mpr ⟨lw_p13, List.forall_mem_cons.mpr ⟨lw_p14, List.forall_mem_cons.mpr ⟨lw_p15, fun _ h => absurd h List.not_mem_nil⟩⟩⟩⟩⟩⟩⟩⟩⟩⟩⟩⟩⟩⟩⟩⟩
theorem lw_p16 : lw_okq (⟨"BarrelTapsModel", "readYard", "(I)Z"⟩, 38) := ⟨⟨by decide +kernel, by decide +kernel⟩, List.mem_of_getElem? (i := 502) (by decide +kernel), List.mem_of_getElem? (i := 645) (by decide +kernel), List.mem_of_getElem? (i := 646) (by decide +kernel)⟩
theorem lw_p17 : lw_okq (⟨"BarrelTapsModel", "digitAt", "(III)I"⟩, 38) := ⟨⟨by decide +kernel, by decide +kernel⟩, List.mem_of_getElem? (i := 502) (by decide +kernel), List.mem_of_getElem? (i := 649) (by decide +kernel), List.mem_of_getElem? (i := 650) (by decide +kernel)⟩
theorem lw_p18 : lw_okq (⟨"BarrelTapsModel", "readTap", "(I)Z"⟩, 38) := ⟨⟨by decide +kernel, by decide +kernel⟩, List.mem_of_getElem? (i := 502) (by decide +kernel), List.mem_of_getElem? (i := 653) (by decide +kernel), List.mem_of_getElem? (i := 654) (by decide +kernel)⟩
theorem lw_p19 : lw_okq (⟨"BarrelTapsModel", "isTap", "(I)Z"⟩, 38) := ⟨⟨by decide +kernel, by decide +kernel⟩, List.mem_of_getElem? (i := 502) (by decide +kernel), List.mem_of_getElem? (i := 661) (by decide +kernel), List.mem_of_getElem? (i := 662) (by decide +kernel)⟩
theorem lw_p20 : lw_okq (⟨"BarrelTapsModel", "wants", "(I)I"⟩, 38) := ⟨⟨by decide +kernel, by decide +kernel⟩, List.mem_of_getElem? (i := 502) (by decide +kernel), List.mem_of_getElem? (i := 665) (by decide +kernel), List.mem_of_getElem? (i := 666) (by decide +kernel)⟩
theorem lw_p21 : lw_okq (⟨"BarrelTapsModel", "goDays", "(I)V"⟩, 38) := ⟨⟨by decide +kernel, by decide +kernel⟩, List.mem_of_getElem? (i := 502) (by decide +kernel), List.mem_of_getElem? (i := 696) (by decide +kernel), List.mem_of_getElem? (i := 697) (by decide +kernel)⟩
theorem lw_p22 : lw_okq (⟨"BarrelTapsModel", "goDay", "(I)V"⟩, 38) := ⟨⟨by decide +kernel, by decide +kernel⟩, List.mem_of_getElem? (i := 502) (by decide +kernel), List.mem_of_getElem? (i := 700) (by decide +kernel), List.mem_of_getElem? (i := 701) (by decide +kernel)⟩
theorem lw_p23 : lw_okq (⟨"BarrelTapsModel", "drawByTurns", "()V"⟩, 38) := ⟨⟨by decide +kernel, by decide +kernel⟩, List.mem_of_getElem? (i := 502) (by decide +kernel), List.mem_of_getElem? (i := 704) (by decide +kernel), List.mem_of_getElem? (i := 705) (by decide +kernel)⟩
theorem lw_p24 : lw_okq (⟨"BarrelTapsModel", "wantsNow", "(I)I"⟩, 38) := ⟨⟨by decide +kernel, by decide +kernel⟩, List.mem_of_getElem? (i := 502) (by decide +kernel), List.mem_of_getElem? (i := 708) (by decide +kernel), List.mem_of_getElem? (i := 709) (by decide +kernel)⟩
theorem lw_p25 : lw_okq (⟨"BarrelTapsModel", "draw", "(II)V"⟩, 38) := ⟨⟨by decide +kernel, by decide +kernel⟩, List.mem_of_getElem? (i := 502) (by decide +kernel), List.mem_of_getElem? (i := 712) (by decide +kernel), List.mem_of_getElem? (i := 713) (by decide +kernel)⟩
theorem lw_p26 : lw_okq (⟨"BarrelTapsModel", "gives", "(I)I"⟩, 38) := ⟨⟨by decide +kernel, by decide +kernel⟩, List.mem_of_getElem? (i := 502) (by decide +kernel), List.mem_of_getElem? (i := 716) (by decide +kernel), List.mem_of_getElem? (i := 717) (by decide +kernel)⟩
theorem lw_p27 : lw_okq (⟨"BarrelTapsModel", "drawInOrder", "(Z)V"⟩, 38) := ⟨⟨by decide +kernel, by decide +kernel⟩, List.mem_of_getElem? (i := 502) (by decide +kernel), List.mem_of_getElem? (i := 720) (by decide +kernel), List.mem_of_getElem? (i := 721) (by decide +kernel)⟩
theorem lw_p28 : lw_okq (⟨"BarrelTapsModel", "nextTap", "(Z)I"⟩, 38) := ⟨⟨by decide +kernel, by decide +kernel⟩, List.mem_of_getElem? (i := 502) (by decide +kernel), List.mem_of_getElem? (i := 724) (by decide +kernel), List.mem_of_getElem? (i := 725) (by decide +kernel)⟩
theorem lw_p29 : lw_okq (⟨"BarrelTapsModel", "firstDry", "(II)I"⟩, 38) := ⟨⟨by decide +kernel, by decide +kernel⟩, List.mem_of_getElem? (i := 502) (by decide +kernel), List.mem_of_getElem? (i := 744) (by decide +kernel), List.mem_of_getElem? (i := 745) (by decide +kernel)⟩
theorem lw_p30 : lw_okq (⟨"BarrelTapsModel", "againstDays", "(I)I"⟩, 38) := ⟨⟨by decide +kernel, by decide +kernel⟩, List.mem_of_getElem? (i := 502) (by decide +kernel), List.mem_of_getElem? (i := 752) (by decide +kernel), List.mem_of_getElem? (i := 753) (by decide +kernel)⟩
theorem lw_p31 : lw_okq (⟨"BarrelTapsModel", "canAll", "(I)Z"⟩, 38) := ⟨⟨by decide +kernel, by decide +kernel⟩, List.mem_of_getElem? (i := 502) (by decide +kernel), List.mem_of_getElem? (i := 756) (by decide +kernel), List.mem_of_getElem? (i := 757) (by decide +kernel)⟩
def lw_privs_2 : List (MethodName × Nat) := [(⟨"BarrelTapsModel", "readYard", "(I)Z"⟩, 38), (⟨"BarrelTapsModel", "digitAt", "(III)I"⟩, 38), (⟨"BarrelTapsModel", "readTap", "(I)Z"⟩, 38), (⟨"BarrelTapsModel", "isTap", "(I)Z"⟩, 38), (⟨"BarrelTapsModel", "wants", "(I)I"⟩, 38), (⟨"BarrelTapsModel", "goDays", "(I)V"⟩, 38), (⟨"BarrelTapsModel", "goDay", "(I)V"⟩, 38), (⟨"BarrelTapsModel", "drawByTurns", "()V"⟩, 38), (⟨"BarrelTapsModel", "wantsNow", "(I)I"⟩, 38), (⟨"BarrelTapsModel", "draw", "(II)V"⟩, 38), (⟨"BarrelTapsModel", "gives", "(I)I"⟩, 38), (⟨"BarrelTapsModel", "drawInOrder", "(Z)V"⟩, 38), (⟨"BarrelTapsModel", "nextTap", "(Z)I"⟩, 38), (⟨"BarrelTapsModel", "firstDry", "(II)I"⟩, 38), (⟨"BarrelTapsModel", "againstDays", "(I)I"⟩, 38), (⟨"BarrelTapsModel", "canAll", "(I)Z"⟩, 38)]
theorem lw_r2 : ∀ q ∈ lw_privs_2, lw_okq q := List.forall_mem_cons.mpr ⟨lw_p16, List.forall_mem_cons.mpr ⟨lw_p17, List.forall_mem_cons.mpr ⟨lw_p18, List.forall_mem_cons.mpr ⟨lw_p19, List.forall_mem_cons.mpr ⟨lw_p20, List.forall_mem_cons.mpr ⟨lw_p21, List.forall_mem_cons.mpr ⟨lw_p22, List.forall_mem_cons.mpr ⟨lw_p23, List.forall_mem_cons.mpr ⟨lw_p24, List.forall_mem_cons.mpr ⟨lw_p25, List.forall_mem_cons.mpr ⟨lw_p26, List.forall_mem_cons.mpr ⟨lw_p27, List.forall_mem_cons.mpr ⟨lw_p28, List.forall_mem_cons.mpr ⟨lw_p29, List.forall_mem_cons.mpr ⟨lw_p30, List.forall_mem_cons.mpr ⟨lw_p31, fun _ h => absurd h List.not_mem_nil⟩⟩⟩⟩⟩⟩⟩⟩⟩⟩⟩⟩⟩⟩⟩⟩
theorem lw_p32 : lw_okq (⟨"BarrelTapsModel", "wetOn", "(I)I"⟩, 38) := ⟨⟨by decide +kernel, by decide +kernel⟩, List.mem_of_getElem? (i := 502) (by decide +kernel), List.mem_of_getElem? (i := 760) (by decide +kernel), List.mem_of_getElem? (i := 761) (by decide +kernel)⟩
theorem lw_p33 : lw_okq (⟨"BarrelTapsModel", "areSo", "()Z"⟩, 38) := ⟨⟨by decide +kernel, by decide +kernel⟩, List.mem_of_getElem? (i := 502) (by decide +kernel), List.mem_of_getElem? (i := 800) (by decide +kernel), List.mem_of_getElem? (i := 801) (by decide +kernel)⟩
theorem lw_p34 : lw_okq (⟨"BarrelTapsModel", "lost", "(I)J"⟩, 38) := ⟨⟨by decide +kernel, by decide +kernel⟩, List.mem_of_getElem? (i := 502) (by decide +kernel), List.mem_of_getElem? (i := 824) (by decide +kernel), List.mem_of_getElem? (i := 825) (by decide +kernel)⟩
theorem lw_p35 : lw_okq (⟨"BarrelTapsModel", "begins", "(I)V"⟩, 38) := ⟨⟨by decide +kernel, by decide +kernel⟩, List.mem_of_getElem? (i := 502) (by decide +kernel), List.mem_of_getElem? (i := 836) (by decide +kernel), List.mem_of_getElem? (i := 837) (by decide +kernel)⟩
def lw_privs_3 : List (MethodName × Nat) := [(⟨"BarrelTapsModel", "wetOn", "(I)I"⟩, 38), (⟨"BarrelTapsModel", "areSo", "()Z"⟩, 38), (⟨"BarrelTapsModel", "lost", "(I)J"⟩, 38), (⟨"BarrelTapsModel", "begins", "(I)V"⟩, 38)]
theorem lw_r3 : ∀ q ∈ lw_privs_3, lw_okq q := List.forall_mem_cons.mpr ⟨lw_p32, List.forall_mem_cons.mpr ⟨lw_p33, List.forall_mem_cons.mpr ⟨lw_p34, List.forall_mem_cons.mpr ⟨lw_p35, fun _ h => absurd h List.not_mem_nil⟩⟩⟩⟩
def lw_privs : List (MethodName × Nat) := lw_privs_1 ++ (lw_privs_2 ++ (lw_privs_3))
def lw_tbl : List Cond := k2_sels lw_privs ++ tables_1
theorem lw_privs_ok : ∀ q ∈ lw_privs, lw_okq q := by
  show ∀ q ∈ lw_privs_1 ++ (lw_privs_2 ++ (lw_privs_3)), lw_okq q
  exact List.forall_mem_append.mpr ⟨lw_r1, List.forall_mem_append.mpr ⟨lw_r2, lw_r3⟩⟩
end
section
def RX0 : String := "BarrelTaps$Days"
def TX0 : u_T := fun k => match k with
  | 0 => ("BarrelTaps$Days", "levels", "[I", true)
  | 1 => ("BarrelTaps$Days", "overs", "[I", true)
  | 2 => ("BarrelTaps$Days", "yard", "LBarrelTaps$Yard;", true)
  | 3 => ("BarrelTaps$Days", "drawn", "[I", true)
  | 4 => ("BarrelTaps$Days", "order", "[I", true)
  | _ => ("BarrelTaps$Days", "rule", "I", false)
def tyX0 : Nat → FieldType := fun k => match k with
  | 0 => .array .int
  | 1 => .array .int
  | 2 => .object "BarrelTaps$Yard"
  | 3 => .array .int
  | 4 => .array .int
  | _ => .int
abbrev wsX00 : List Cond := u_ws RX0 TX0 6
theorem nmX0 : ∀ a, a < 6 → ∀ b, b < 6 → a ≠ b → (TX0 a).2.1 ≠ (TX0 b).2.1 := by decide +kernel
theorem tyX0_ok : ∀ k, k < 6 → parseFieldDescriptor (TX0 k).2.2.1 = some (tyX0 k) := by decide +kernel
abbrev cX0_init : ByteArray := prog_2_method_1_code
def yX0_init : MethodName := ⟨RX0, "<init>", "(LBarrelTaps$Yard;)V"⟩
abbrev cX0_startWith : ByteArray := prog_2_method_2_code
def yX0_startWith : MethodName := ⟨RX0, "startWith", "(II)V"⟩
abbrev cX0_drawsBefore : ByteArray := prog_2_method_3_code
def yX0_drawsBefore : MethodName := ⟨RX0, "drawsBefore", "(II)Z"⟩
abbrev cX0_passDays : ByteArray := prog_2_method_4_code
def yX0_passDays : MethodName := ⟨RX0, "passDays", "(II)V"⟩
abbrev cX0_passDay : ByteArray := prog_2_method_5_code
def yX0_passDay : MethodName := ⟨RX0, "passDay", "(II)V"⟩
abbrev cX0_drawInOrder : ByteArray := prog_2_method_6_code
def yX0_drawInOrder : MethodName := ⟨RX0, "drawInOrder", "(II)I"⟩
abbrev cX0_drawByTurns : ByteArray := prog_2_method_7_code
def yX0_drawByTurns : MethodName := ⟨RX0, "drawByTurns", "(II)I"⟩
abbrev cX0_draw : ByteArray := prog_2_method_8_code
def yX0_draw : MethodName := ⟨RX0, "draw", "(IIII)I"⟩
abbrev cX0_drawnBy : ByteArray := prog_2_method_9_code
def yX0_drawnBy : MethodName := ⟨RX0, "drawnBy", "(II)I"⟩
abbrev cX0_drawnInAll : ByteArray := prog_2_method_10_code
def yX0_drawnInAll : MethodName := ⟨RX0, "drawnInAll", "(II)I"⟩
abbrev cX0_isDry : ByteArray := prog_2_method_11_code
def yX0_isDry : MethodName := ⟨RX0, "isDry", "(II)Z"⟩
abbrev cX0_firstDry : ByteArray := prog_2_method_12_code
def yX0_firstDry : MethodName := ⟨RX0, "firstDry", "(II)I"⟩
abbrev cX0_countNeverDry : ByteArray := prog_2_method_13_code
def yX0_countNeverDry : MethodName := ⟨RX0, "countNeverDry", "(I)I"⟩
abbrev cX0_allHaveNeeds : ByteArray := prog_2_method_14_code
def yX0_allHaveNeeds : MethodName := ⟨RX0, "allHaveNeeds", "(II)Z"⟩
def RX1 : String := "BarrelTaps$Marks"
def TX1 : u_T := fun k => match k with
  | 0 => ("BarrelTaps$Marks", "day", "[I", true)
  | 1 => ("BarrelTaps$Marks", "height", "[I", true)
  | _ => ("BarrelTaps$Marks", "count", "I", false)
def tyX1 : Nat → FieldType := fun k => match k with
  | 0 => .array .int
  | 1 => .array .int
  | _ => .int
abbrev wsX10 : List Cond := u_ws RX1 TX1 3
theorem nmX1 : ∀ a, a < 3 → ∀ b, b < 3 → a ≠ b → (TX1 a).2.1 ≠ (TX1 b).2.1 := by decide +kernel
theorem tyX1_ok : ∀ k, k < 3 → parseFieldDescriptor (TX1 k).2.2.1 = some (tyX1 k) := by decide +kernel
abbrev cX1_init : ByteArray := prog_3_method_1_code
def yX1_init : MethodName := ⟨RX1, "<init>", "()V"⟩
abbrev cX1_addOne : ByteArray := prog_3_method_2_code
def yX1_addOne : MethodName := ⟨RX1, "addOne", "(II)I"⟩
abbrev cX1_lastDay : ByteArray := prog_3_method_3_code
def yX1_lastDay : MethodName := ⟨RX1, "lastDay", "()I"⟩
abbrev cX1_holdAhead : ByteArray := prog_3_method_4_code
def yX1_holdAhead : MethodName := ⟨RX1, "holdAhead", "(II)Z"⟩
def RX2 : String := "BarrelTaps$Sheet"
def TX2 : u_T := fun k => match k with
  | 0 => ("BarrelTaps$Sheet", "cells", "[I", true)
  | 1 => ("BarrelTaps$Sheet", "lane", "I", false)
  | _ => ("BarrelTaps$Sheet", "size", "I", false)
def tyX2 : Nat → FieldType := fun k => match k with
  | 0 => .array .int
  | 1 => .int
  | _ => .int
abbrev wsX20 : List Cond := u_ws RX2 TX2 3
theorem nmX2 : ∀ a, a < 3 → ∀ b, b < 3 → a ≠ b → (TX2 a).2.1 ≠ (TX2 b).2.1 := by decide +kernel
theorem tyX2_ok : ∀ k, k < 3 → parseFieldDescriptor (TX2 k).2.2.1 = some (tyX2 k) := by decide +kernel
abbrev cX2_init : ByteArray := prog_4_method_1_code
def yX2_init : MethodName := ⟨RX2, "<init>", "()V"⟩
abbrev cX2_makeRow : ByteArray := prog_4_method_2_code
def yX2_makeRow : MethodName := ⟨RX2, "makeRow", "(II)V"⟩
abbrev cX2_hasCells : ByteArray := prog_4_method_3_code
def yX2_hasCells : MethodName := ⟨RX2, "hasCells", "(II)Z"⟩
abbrev cX2_faultAsLane : ByteArray := prog_4_method_4_code
def yX2_faultAsLane : MethodName := ⟨RX2, "faultAsLane", "(I)I"⟩
abbrev cX2_cutToLane : ByteArray := prog_4_method_5_code
def yX2_cutToLane : MethodName := ⟨RX2, "cutToLane", "(I)I"⟩
def RX3 : String := "BarrelTaps$Tap"
def TX3 : u_T := fun k => match k with
  | 0 => ("BarrelTaps$Tap", "kind", "I", false)
  | 1 => ("BarrelTaps$Tap", "height", "I", false)
  | 2 => ("BarrelTaps$Tap", "need", "I", false)
  | _ => ("BarrelTaps$Tap", "speed", "I", false)
def tyX3 : Nat → FieldType := fun k => match k with
  | 0 => .int
  | 1 => .int
  | 2 => .int
  | _ => .int
abbrev wsX30 : List Cond := u_ws RX3 TX3 4
theorem nmX3 : ∀ a, a < 4 → ∀ b, b < 4 → a ≠ b → (TX3 a).2.1 ≠ (TX3 b).2.1 := by decide +kernel
theorem tyX3_ok : ∀ k, k < 4 → parseFieldDescriptor (TX3 k).2.2.1 = some (tyX3 k) := by decide +kernel
abbrev cX3_init : ByteArray := prog_5_method_1_code
def yX3_init : MethodName := ⟨RX3, "<init>", "()V"⟩
abbrev cX3_wants : ByteArray := prog_5_method_2_code
def yX3_wants : MethodName := ⟨RX3, "wants", "()I"⟩
def RX4 : String := "BarrelTaps$Text"
def TX4 : u_T := fun k => match k with
  | _ => ("", "", "", false)
def tyX4 : Nat → FieldType := fun k => match k with
  | _ => .int
abbrev wsX40 : List Cond := u_ws RX4 TX4 0
theorem nmX4 : ∀ a, a < 0 → ∀ b, b < 0 → a ≠ b → (TX4 a).2.1 ≠ (TX4 b).2.1 := by decide +kernel
theorem tyX4_ok : ∀ k, k < 0 → parseFieldDescriptor (TX4 k).2.2.1 = some (tyX4 k) := by decide +kernel
abbrev cX4_firstFault : ByteArray := prog_6_method_2_code
def yX4_firstFault : MethodName := ⟨RX4, "firstFault", "(LBarrelTaps$Sheet;II)I"⟩
abbrev cX4_goesOnWith : ByteArray := prog_6_method_3_code
def yX4_goesOnWith : MethodName := ⟨RX4, "goesOnWith", "(II)Z"⟩
abbrev cX4_tapGoesOnWith : ByteArray := prog_6_method_4_code
def yX4_tapGoesOnWith : MethodName := ⟨RX4, "tapGoesOnWith", "(II)Z"⟩
abbrev cX4_isDigit : ByteArray := prog_6_method_5_code
def yX4_isDigit : MethodName := ⟨RX4, "isDigit", "(I)Z"⟩
abbrev cX4_digitAt : ByteArray := prog_6_method_6_code
def yX4_digitAt : MethodName := ⟨RX4, "digitAt", "(LBarrelTaps$Sheet;I)I"⟩
abbrev cX4_kindOf : ByteArray := prog_6_method_7_code
def yX4_kindOf : MethodName := ⟨RX4, "kindOf", "(I)I"⟩
def RX5 : String := "BarrelTaps$Yard"
def TX5 : u_T := fun k => match k with
  | 0 => ("BarrelTaps$Yard", "taps", "[LBarrelTaps$Tap;", true)
  | 1 => ("BarrelTaps$Yard", "rainOn", "[I", true)
  | 2 => ("BarrelTaps$Yard", "tapCount", "I", false)
  | 3 => ("BarrelTaps$Yard", "cap", "I", false)
  | 4 => ("BarrelTaps$Yard", "per", "I", false)
  | 5 => ("BarrelTaps$Yard", "firstWater", "I", false)
  | 6 => ("BarrelTaps$Yard", "rule", "I", false)
  | 7 => ("BarrelTaps$Yard", "leakHeight", "I", false)
  | _ => ("BarrelTaps$Yard", "leakPails", "I", false)
def tyX5 : Nat → FieldType := fun k => match k with
  | 0 => .array (.object "BarrelTaps$Tap")
  | 1 => .array .int
  | 2 => .int
  | 3 => .int
  | 4 => .int
  | 5 => .int
  | 6 => .int
  | 7 => .int
  | _ => .int
abbrev wsX50 : List Cond := u_ws RX5 TX5 9
theorem nmX5 : ∀ a, a < 9 → ∀ b, b < 9 → a ≠ b → (TX5 a).2.1 ≠ (TX5 b).2.1 := by decide +kernel
theorem tyX5_ok : ∀ k, k < 9 → parseFieldDescriptor (TX5 k).2.2.1 = some (tyX5 k) := by decide +kernel
abbrev cX5_init : ByteArray := prog_7_method_1_code
def yX5_init : MethodName := ⟨RX5, "<init>", "()V"⟩
abbrev cX5_readFrom : ByteArray := prog_7_method_2_code
def yX5_readFrom : MethodName := ⟨RX5, "readFrom", "(LBarrelTaps$Sheet;II)V"⟩
abbrev cX5_givesAt : ByteArray := prog_7_method_3_code
def yX5_givesAt : MethodName := ⟨RX5, "givesAt", "(II)I"⟩
abbrev cX5_leaksOut : ByteArray := prog_7_method_4_code
def yX5_leaksOut : MethodName := ⟨RX5, "leaksOut", "(I)I"⟩
abbrev cX5_beneathAllTaps : ByteArray := prog_7_method_5_code
def yX5_beneathAllTaps : MethodName := ⟨RX5, "beneathAllTaps", "(I)I"⟩
def RX6 : String := "BarrelTaps"
def TX6 : u_T := fun k => match k with
  | 0 => ("BarrelTaps", "yard", "LBarrelTaps$Yard;", true)
  | 1 => ("BarrelTaps", "days", "LBarrelTaps$Days;", true)
  | 2 => ("BarrelTaps", "marks", "LBarrelTaps$Marks;", true)
  | 3 => ("BarrelTaps", "sheets", "[LBarrelTaps$Sheet;", true)
  | 4 => ("BarrelTaps", "traceLeft", "I", false)
  | _ => ("BarrelTaps", "lastFault", "I", false)
def tyX6 : Nat → FieldType := fun k => match k with
  | 0 => .object "BarrelTaps$Yard"
  | 1 => .object "BarrelTaps$Days"
  | 2 => .object "BarrelTaps$Marks"
  | 3 => .array (.object "BarrelTaps$Sheet")
  | 4 => .int
  | _ => .int
abbrev wsX60 : List Cond := u_ws RX6 TX6 6
theorem nmX6 : ∀ a, a < 6 → ∀ b, b < 6 → a ≠ b → (TX6 a).2.1 ≠ (TX6 b).2.1 := by decide +kernel
theorem tyX6_ok : ∀ k, k < 6 → parseFieldDescriptor (TX6 k).2.2.1 = some (tyX6 k) := by decide +kernel
abbrev cX6_init : ByteArray := prog_1_method_1_code
def yX6_init : MethodName := ⟨RX6, "<init>", "()V"⟩
abbrev cX6_yard : ByteArray := prog_1_method_2_code
def yX6_yard : MethodName := ⟨RX6, "yard", "(IIII)I"⟩
abbrev cX6_ofTap : ByteArray := prog_1_method_3_code
def yX6_ofTap : MethodName := ⟨RX6, "ofTap", "(II)I"⟩
abbrev cX6_bore : ByteArray := prog_1_method_4_code
def yX6_bore : MethodName := ⟨RX6, "bore", "(II)I"⟩
abbrev cX6_begin : ByteArray := prog_1_method_5_code
def yX6_begin : MethodName := ⟨RX6, "begin", "(I)I"⟩
abbrev cX6_rain : ByteArray := prog_1_method_6_code
def yX6_rain : MethodName := ⟨RX6, "rain", "(II)I"⟩
abbrev cX6_law : ByteArray := prog_1_method_7_code
def yX6_law : MethodName := ⟨RX6, "law", "(I)I"⟩
abbrev cX6_leak : ByteArray := prog_1_method_8_code
def yX6_leak : MethodName := ⟨RX6, "leak", "(II)I"⟩
abbrev cX6_got : ByteArray := prog_1_method_9_code
def yX6_got : MethodName := ⟨RX6, "got", "(II)I"⟩
abbrev cX6_level : ByteArray := prog_1_method_10_code
def yX6_level : MethodName := ⟨RX6, "level", "(I)I"⟩
abbrev cX6_over : ByteArray := prog_1_method_11_code
def yX6_over : MethodName := ⟨RX6, "over", "(I)I"⟩
abbrev cX6_nobody : ByteArray := prog_1_method_12_code
def yX6_nobody : MethodName := ⟨RX6, "nobody", "(I)I"⟩
abbrev cX6_dry : ByteArray := prog_1_method_13_code
def yX6_dry : MethodName := ⟨RX6, "dry", "(I)I"⟩
abbrev cX6_can : ByteArray := prog_1_method_14_code
def yX6_can : MethodName := ⟨RX6, "can", "(I)I"⟩
abbrev cX6_start : ByteArray := prog_1_method_15_code
def yX6_start : MethodName := ⟨RX6, "start", "(I)I"⟩
abbrev cX6_best : ByteArray := prog_1_method_16_code
def yX6_best : MethodName := ⟨RX6, "best", "(II)I"⟩
abbrev cX6_highest : ByteArray := prog_1_method_17_code
def yX6_highest : MethodName := ⟨RX6, "highest", "(II)I"⟩
abbrev cX6_worst : ByteArray := prog_1_method_18_code
def yX6_worst : MethodName := ⟨RX6, "worst", "(II)J"⟩
abbrev cX6_risk : ByteArray := prog_1_method_19_code
def yX6_risk : MethodName := ⟨RX6, "risk", "(IIIII)J"⟩
abbrev cX6_mark : ByteArray := prog_1_method_20_code
def yX6_mark : MethodName := ⟨RX6, "mark", "(II)I"⟩
abbrev cX6_back : ByteArray := prog_1_method_21_code
def yX6_back : MethodName := ⟨RX6, "back", "(I)I"⟩
abbrev cX6_rains : ByteArray := prog_1_method_22_code
def yX6_rains : MethodName := ⟨RX6, "rains", "(II)I"⟩
abbrev cX6_thief : ByteArray := prog_1_method_23_code
def yX6_thief : MethodName := ⟨RX6, "thief", "(II)I"⟩
abbrev cX6_sheet : ByteArray := prog_1_method_24_code
def yX6_sheet : MethodName := ⟨RX6, "sheet", "(III)I"⟩
abbrev cX6_lose : ByteArray := prog_1_method_25_code
def yX6_lose : MethodName := ⟨RX6, "lose", "(I)I"⟩
abbrev cX6_put : ByteArray := prog_1_method_26_code
def yX6_put : MethodName := ⟨RX6, "put", "(III)I"⟩
abbrev cX6_cell : ByteArray := prog_1_method_27_code
def yX6_cell : MethodName := ⟨RX6, "cell", "(III)J"⟩
abbrev cX6_copy : ByteArray := prog_1_method_28_code
def yX6_copy : MethodName := ⟨RX6, "copy", "(IIIII)I"⟩
abbrev cX6_tell : ByteArray := prog_1_method_29_code
def yX6_tell : MethodName := ⟨RX6, "tell", "(I)I"⟩
abbrev cX6_knock : ByteArray := prog_1_method_30_code
def yX6_knock : MethodName := ⟨RX6, "knock", "(I)I"⟩
abbrev cX6_as : ByteArray := prog_1_method_31_code
def yX6_as : MethodName := ⟨RX6, "as", "(II)I"⟩
abbrev cX6_trace : ByteArray := prog_1_method_32_code
def yX6_trace : MethodName := ⟨RX6, "trace", "()I"⟩
abbrev cX6_fault : ByteArray := prog_1_method_33_code
def yX6_fault : MethodName := ⟨RX6, "fault", "()I"⟩
abbrev cX6_many : ByteArray := prog_1_method_34_code
def yX6_many : MethodName := ⟨RX6, "many", "(I)I"⟩
abbrev cX6_noYard : ByteArray := prog_1_method_35_code
def yX6_noYard : MethodName := ⟨RX6, "noYard", "()Z"⟩
abbrev cX6_noTap : ByteArray := prog_1_method_36_code
def yX6_noTap : MethodName := ⟨RX6, "noTap", "(I)Z"⟩
abbrev cX6_noDay : ByteArray := prog_1_method_37_code
def yX6_noDay : MethodName := ⟨RX6, "noDay", "(I)Z"⟩
abbrev cX6_noSheet : ByteArray := prog_1_method_38_code
def yX6_noSheet : MethodName := ⟨RX6, "noSheet", "(I)Z"⟩
abbrev cX6_noLane : ByteArray := prog_1_method_39_code
def yX6_noLane : MethodName := ⟨RX6, "noLane", "(I)Z"⟩
abbrev cX6_isNot : ByteArray := prog_1_method_40_code
def yX6_isNot : MethodName := ⟨RX6, "isNot", "(III)Z"⟩
abbrev cX6_failBy : ByteArray := prog_1_method_41_code
def yX6_failBy : MethodName := ⟨RX6, "failBy", "(I)I"⟩
abbrev cX6_passAsTold : ByteArray := prog_1_method_42_code
def yX6_passAsTold : MethodName := ⟨RX6, "passAsTold", "(I)V"⟩
abbrev cX6_marksHoldBehind : ByteArray := prog_1_method_43_code
def yX6_marksHoldBehind : MethodName := ⟨RX6, "marksHoldBehind", "(I)Z"⟩
abbrev cX6_inLeastTerms : ByteArray := prog_1_method_44_code
def yX6_inLeastTerms : MethodName := ⟨RX6, "inLeastTerms", "(III)J"⟩
abbrev cX6_familyTells : ByteArray := prog_1_method_45_code
def yX6_familyTells : MethodName := ⟨RX6, "familyTells", "(LBarrelTaps$Tap;)I"⟩
abbrev cX6_greedyTells : ByteArray := prog_1_method_46_code
def yX6_greedyTells : MethodName := ⟨RX6, "greedyTells", "(LBarrelTaps$Tap;)I"⟩
abbrev cX6_oldestTells : ByteArray := prog_1_method_47_code
def yX6_oldestTells : MethodName := ⟨RX6, "oldestTells", "(LBarrelTaps$Tap;)I"⟩
abbrev cX6_leaveTrace : ByteArray := prog_1_method_48_code
def yX6_leaveTrace : MethodName := ⟨RX6, "leaveTrace", "(I)V"⟩
def RX7 : String := "BarrelTapsModel"
def TX7 : u_T := fun k => match k with
  | 0 => ("BarrelTapsModel", "fault", "I", false)
  | 1 => ("BarrelTapsModel", "trace", "I", false)
  | 2 => ("BarrelTapsModel", "sorts", "[I", true)
  | 3 => ("BarrelTapsModel", "sheetLong", "[I", true)
  | 4 => ("BarrelTapsModel", "cells", "[I", true)
  | 5 => ("BarrelTapsModel", "taps", "I", false)
  | 6 => ("BarrelTapsModel", "cap", "I", false)
  | 7 => ("BarrelTapsModel", "per", "I", false)
  | 8 => ("BarrelTapsModel", "kind", "[I", true)
  | 9 => ("BarrelTapsModel", "height", "[I", true)
  | 10 => ("BarrelTapsModel", "need", "[I", true)
  | 11 => ("BarrelTapsModel", "speed", "[I", true)
  | 12 => ("BarrelTapsModel", "first", "I", false)
  | 13 => ("BarrelTapsModel", "rainOf", "[I", true)
  | 14 => ("BarrelTapsModel", "lawNow", "I", false)
  | 15 => ("BarrelTapsModel", "leakAt", "I", false)
  | 16 => ("BarrelTapsModel", "leaks", "I", false)
  | 17 => ("BarrelTapsModel", "at", "I", false)
  | 18 => ("BarrelTapsModel", "readCap", "I", false)
  | 19 => ("BarrelTapsModel", "readPer", "I", false)
  | 20 => ("BarrelTapsModel", "readTaps", "I", false)
  | 21 => ("BarrelTapsModel", "readKind", "[I", true)
  | 22 => ("BarrelTapsModel", "readDigits", "[I", true)
  | 23 => ("BarrelTapsModel", "levels", "[I", true)
  | 24 => ("BarrelTapsModel", "gotOn", "[I", true)
  | 25 => ("BarrelTapsModel", "overOn", "[I", true)
  | 26 => ("BarrelTapsModel", "drawn", "[I", true)
  | 27 => ("BarrelTapsModel", "isDone", "[Z", true)
  | 28 => ("BarrelTapsModel", "water", "I", false)
  | 29 => ("BarrelTapsModel", "isJust", "Z", false)
  | 30 => ("BarrelTapsModel", "thiefDay", "I", false)
  | 31 => ("BarrelTapsModel", "thiefTap", "I", false)
  | 32 => ("BarrelTapsModel", "thiefMuch", "I", false)
  | 33 => ("BarrelTapsModel", "didGive", "Z", false)
  | 34 => ("BarrelTapsModel", "keptRain", "[I", true)
  | 35 => ("BarrelTapsModel", "marks", "I", false)
  | 36 => ("BarrelTapsModel", "markDay", "[I", true)
  | _ => ("BarrelTapsModel", "markLevel", "[I", true)
def tyX7 : Nat → FieldType := fun k => match k with
  | 0 => .int
  | 1 => .int
  | 2 => .array .int
  | 3 => .array .int
  | 4 => .array .int
  | 5 => .int
  | 6 => .int
  | 7 => .int
  | 8 => .array .int
  | 9 => .array .int
  | 10 => .array .int
  | 11 => .array .int
  | 12 => .int
  | 13 => .array .int
  | 14 => .int
  | 15 => .int
  | 16 => .int
  | 17 => .int
  | 18 => .int
  | 19 => .int
  | 20 => .int
  | 21 => .array .int
  | 22 => .array .int
  | 23 => .array .int
  | 24 => .array .int
  | 25 => .array .int
  | 26 => .array .int
  | 27 => .array .boolean
  | 28 => .int
  | 29 => .boolean
  | 30 => .int
  | 31 => .int
  | 32 => .int
  | 33 => .boolean
  | 34 => .array .int
  | 35 => .int
  | 36 => .array .int
  | _ => .array .int
abbrev wsX70 : List Cond := u_ws RX7 TX7 38
theorem nmX7 : ∀ a, a < 38 → ∀ b, b < 38 → a ≠ b → (TX7 a).2.1 ≠ (TX7 b).2.1 := by decide +kernel
theorem tyX7_ok : ∀ k, k < 38 → parseFieldDescriptor (TX7 k).2.2.1 = some (tyX7 k) := by decide +kernel
abbrev cX7_init : ByteArray := prog_9_method_1_code
def yX7_init : MethodName := ⟨RX7, "<init>", "()V"⟩
abbrev cX7_fails : ByteArray := prog_9_method_3_code
def yX7_fails : MethodName := ⟨RX7, "fails", "(I)I"⟩
abbrev cX7_lost : ByteArray := prog_9_method_4_code
def yX7_lost : MethodName := ⟨RX7, "lost", "(I)J"⟩
abbrev cX7_within : ByteArray := prog_9_method_5_code
def yX7_within : MethodName := ⟨RX7, "within", "(III)Z"⟩
abbrev cX7_isSheet : ByteArray := prog_9_method_6_code
def yX7_isSheet : MethodName := ⟨RX7, "isSheet", "(I)Z"⟩
abbrev cX7_isSort : ByteArray := prog_9_method_7_code
def yX7_isSort : MethodName := ⟨RX7, "isSort", "(I)Z"⟩
abbrev cX7_against : ByteArray := prog_9_method_8_code
def yX7_against : MethodName := ⟨RX7, "against", "(IIII)I"⟩
abbrev cX7_isTap : ByteArray := prog_9_method_9_code
def yX7_isTap : MethodName := ⟨RX7, "isTap", "(I)Z"⟩
abbrev cX7_isDay : ByteArray := prog_9_method_10_code
def yX7_isDay : MethodName := ⟨RX7, "isDay", "(I)Z"⟩
abbrev cX7_digitAt : ByteArray := prog_9_method_11_code
def yX7_digitAt : MethodName := ⟨RX7, "digitAt", "(III)I"⟩
abbrev cX7_yard : ByteArray := prog_9_method_12_code
def yX7_yard : MethodName := ⟨RX7, "yard", "(IIII)I"⟩
abbrev cX7_readYard : ByteArray := prog_9_method_13_code
def yX7_readYard : MethodName := ⟨RX7, "readYard", "(I)Z"⟩
abbrev cX7_readTap : ByteArray := prog_9_method_14_code
def yX7_readTap : MethodName := ⟨RX7, "readTap", "(I)Z"⟩
abbrev cX7_wants : ByteArray := prog_9_method_15_code
def yX7_wants : MethodName := ⟨RX7, "wants", "(I)I"⟩
abbrev cX7_ofTap : ByteArray := prog_9_method_16_code
def yX7_ofTap : MethodName := ⟨RX7, "ofTap", "(II)I"⟩
abbrev cX7_bore : ByteArray := prog_9_method_17_code
def yX7_bore : MethodName := ⟨RX7, "bore", "(II)I"⟩
abbrev cX7_begin : ByteArray := prog_9_method_18_code
def yX7_begin : MethodName := ⟨RX7, "begin", "(I)I"⟩
abbrev cX7_rain : ByteArray := prog_9_method_19_code
def yX7_rain : MethodName := ⟨RX7, "rain", "(II)I"⟩
abbrev cX7_law : ByteArray := prog_9_method_20_code
def yX7_law : MethodName := ⟨RX7, "law", "(I)I"⟩
abbrev cX7_leak : ByteArray := prog_9_method_21_code
def yX7_leak : MethodName := ⟨RX7, "leak", "(II)I"⟩
abbrev cX7_gives : ByteArray := prog_9_method_22_code
def yX7_gives : MethodName := ⟨RX7, "gives", "(I)I"⟩
abbrev cX7_draw : ByteArray := prog_9_method_23_code
def yX7_draw : MethodName := ⟨RX7, "draw", "(II)V"⟩
abbrev cX7_wantsNow : ByteArray := prog_9_method_24_code
def yX7_wantsNow : MethodName := ⟨RX7, "wantsNow", "(I)I"⟩
abbrev cX7_nextTap : ByteArray := prog_9_method_25_code
def yX7_nextTap : MethodName := ⟨RX7, "nextTap", "(Z)I"⟩
abbrev cX7_drawInOrder : ByteArray := prog_9_method_26_code
def yX7_drawInOrder : MethodName := ⟨RX7, "drawInOrder", "(Z)V"⟩
abbrev cX7_drawByTurns : ByteArray := prog_9_method_27_code
def yX7_drawByTurns : MethodName := ⟨RX7, "drawByTurns", "()V"⟩
abbrev cX7_goDay : ByteArray := prog_9_method_28_code
def yX7_goDay : MethodName := ⟨RX7, "goDay", "(I)V"⟩
abbrev cX7_goDays : ByteArray := prog_9_method_29_code
def yX7_goDays : MethodName := ⟨RX7, "goDays", "(I)V"⟩
abbrev cX7_got : ByteArray := prog_9_method_30_code
def yX7_got : MethodName := ⟨RX7, "got", "(II)I"⟩
abbrev cX7_level : ByteArray := prog_9_method_31_code
def yX7_level : MethodName := ⟨RX7, "level", "(I)I"⟩
abbrev cX7_over : ByteArray := prog_9_method_32_code
def yX7_over : MethodName := ⟨RX7, "over", "(I)I"⟩
abbrev cX7_nobody : ByteArray := prog_9_method_33_code
def yX7_nobody : MethodName := ⟨RX7, "nobody", "(I)I"⟩
abbrev cX7_firstDry : ByteArray := prog_9_method_34_code
def yX7_firstDry : MethodName := ⟨RX7, "firstDry", "(II)I"⟩
abbrev cX7_dry : ByteArray := prog_9_method_35_code
def yX7_dry : MethodName := ⟨RX7, "dry", "(I)I"⟩
abbrev cX7_wetOn : ByteArray := prog_9_method_36_code
def yX7_wetOn : MethodName := ⟨RX7, "wetOn", "(I)I"⟩
abbrev cX7_canAll : ByteArray := prog_9_method_37_code
def yX7_canAll : MethodName := ⟨RX7, "canAll", "(I)Z"⟩
abbrev cX7_againstDays : ByteArray := prog_9_method_38_code
def yX7_againstDays : MethodName := ⟨RX7, "againstDays", "(I)I"⟩
abbrev cX7_can : ByteArray := prog_9_method_39_code
def yX7_can : MethodName := ⟨RX7, "can", "(I)I"⟩
abbrev cX7_start : ByteArray := prog_9_method_40_code
def yX7_start : MethodName := ⟨RX7, "start", "(I)I"⟩
abbrev cX7_best : ByteArray := prog_9_method_41_code
def yX7_best : MethodName := ⟨RX7, "best", "(II)I"⟩
abbrev cX7_highest : ByteArray := prog_9_method_42_code
def yX7_highest : MethodName := ⟨RX7, "highest", "(II)I"⟩
abbrev cX7_inLeastTerms : ByteArray := prog_9_method_43_code
def yX7_inLeastTerms : MethodName := ⟨RX7, "inLeastTerms", "(JJI)J"⟩
abbrev cX7_worst : ByteArray := prog_9_method_44_code
def yX7_worst : MethodName := ⟨RX7, "worst", "(II)J"⟩
abbrev cX7_risk : ByteArray := prog_9_method_45_code
def yX7_risk : MethodName := ⟨RX7, "risk", "(IIIII)J"⟩
abbrev cX7_mark : ByteArray := prog_9_method_46_code
def yX7_mark : MethodName := ⟨RX7, "mark", "(II)I"⟩
abbrev cX7_back : ByteArray := prog_9_method_47_code
def yX7_back : MethodName := ⟨RX7, "back", "(I)I"⟩
abbrev cX7_areSo : ByteArray := prog_9_method_48_code
def yX7_areSo : MethodName := ⟨RX7, "areSo", "()Z"⟩
abbrev cX7_rains : ByteArray := prog_9_method_49_code
def yX7_rains : MethodName := ⟨RX7, "rains", "(II)I"⟩
abbrev cX7_thief : ByteArray := prog_9_method_50_code
def yX7_thief : MethodName := ⟨RX7, "thief", "(II)I"⟩
abbrev cX7_sheet : ByteArray := prog_9_method_51_code
def yX7_sheet : MethodName := ⟨RX7, "sheet", "(III)I"⟩
abbrev cX7_lose : ByteArray := prog_9_method_52_code
def yX7_lose : MethodName := ⟨RX7, "lose", "(I)I"⟩
abbrev cX7_put : ByteArray := prog_9_method_53_code
def yX7_put : MethodName := ⟨RX7, "put", "(III)I"⟩
abbrev cX7_cell : ByteArray := prog_9_method_54_code
def yX7_cell : MethodName := ⟨RX7, "cell", "(III)J"⟩
abbrev cX7_copy : ByteArray := prog_9_method_55_code
def yX7_copy : MethodName := ⟨RX7, "copy", "(IIIII)I"⟩
abbrev cX7_begins : ByteArray := prog_9_method_56_code
def yX7_begins : MethodName := ⟨RX7, "begins", "(I)V"⟩
abbrev cX7_tell : ByteArray := prog_9_method_57_code
def yX7_tell : MethodName := ⟨RX7, "tell", "(I)I"⟩
abbrev cX7_knock : ByteArray := prog_9_method_58_code
def yX7_knock : MethodName := ⟨RX7, "knock", "(I)I"⟩
abbrev cX7_as : ByteArray := prog_9_method_59_code
def yX7_as : MethodName := ⟨RX7, "as", "(II)I"⟩
abbrev cX7_trace : ByteArray := prog_9_method_60_code
def yX7_trace : MethodName := ⟨RX7, "trace", "()I"⟩
abbrev cX7_fault : ByteArray := prog_9_method_61_code
def yX7_fault : MethodName := ⟨RX7, "fault", "()I"⟩
abbrev cX7_many : ByteArray := prog_9_method_62_code
def yX7_many : MethodName := ⟨RX7, "many", "(I)I"⟩
def RL : String := "BarrelTapsLaw"
abbrev cL_law : ByteArray := code
def yL_law : MethodName := ⟨RL, "law", "([I)Z"⟩
abbrev vwCl : List vw_C := [(RX0, TX0, 6), (RX1, TX1, 3), (RX2, TX2, 3), (RX3, TX3, 4), (RX5, TX5, 9), (RX6, TX6, 6), (RX7, TX7, 38)]
end
section
theorem dX0_init_0 : decode cX0_init 0 = .ok (.aload_n 0, 1) := by decide +kernel
theorem dX0_init_1 : decode cX0_init 1 = .ok (.invokespecial 3, 3) := by decide +kernel
theorem dX0_init_4 : decode cX0_init 4 = .ok (.aload_n 0, 1) := by decide +kernel
theorem dX0_init_5 : decode cX0_init 5 = .ok (.bipush 11, 2) := by decide +kernel
theorem dX0_init_7 : decode cX0_init 7 = .ok (.newarray .int, 2) := by decide +kernel
theorem dX0_init_9 : decode cX0_init 9 = .ok (.putfield 9, 3) := by decide +kernel
theorem dX0_init_12 : decode cX0_init 12 = .ok (.aload_n 0, 1) := by decide +kernel
theorem dX0_init_13 : decode cX0_init 13 = .ok (.bipush 10, 2) := by decide +kernel
theorem dX0_init_15 : decode cX0_init 15 = .ok (.newarray .int, 2) := by decide +kernel
theorem dX0_init_17 : decode cX0_init 17 = .ok (.putfield 15, 3) := by decide +kernel
theorem dX0_init_20 : decode cX0_init 20 = .ok (.aload_n 0, 1) := by decide +kernel
theorem dX0_init_21 : decode cX0_init 21 = .ok (.bipush 60, 2) := by decide +kernel
theorem dX0_init_23 : decode cX0_init 23 = .ok (.newarray .int, 2) := by decide +kernel
theorem dX0_init_25 : decode cX0_init 25 = .ok (.putfield 18, 3) := by decide +kernel
theorem dX0_init_28 : decode cX0_init 28 = .ok (.aload_n 0, 1) := by decide +kernel
theorem dX0_init_29 : decode cX0_init 29 = .ok (.bipush 6, 2) := by decide +kernel
theorem dX0_init_31 : decode cX0_init 31 = .ok (.newarray .int, 2) := by decide +kernel
theorem dX0_init_33 : decode cX0_init 33 = .ok (.putfield 21, 3) := by decide +kernel
theorem dX0_init_36 : decode cX0_init 36 = .ok (.aload_n 0, 1) := by decide +kernel
theorem dX0_init_37 : decode cX0_init 37 = .ok (.aload_n 1, 1) := by decide +kernel
theorem dX0_init_38 : decode cX0_init 38 = .ok (.putfield 24, 3) := by decide +kernel
theorem dX0_init_41 : decode cX0_init 41 = .ok (.return_, 1) := by decide +kernel
theorem dX0_startWith_0 : decode cX0_startWith 0 = .ok (.aload_n 0, 1) := by decide +kernel
theorem dX0_startWith_1 : decode cX0_startWith 1 = .ok (.getfield 9, 3) := by decide +kernel
theorem dX0_startWith_4 : decode cX0_startWith 4 = .ok (.iconst 0, 1) := by decide +kernel
theorem dX0_startWith_5 : decode cX0_startWith 5 = .ok (.iload_n 1, 1) := by decide +kernel
theorem dX0_startWith_6 : decode cX0_startWith 6 = .ok (.iastore, 1) := by decide +kernel
theorem dX0_startWith_7 : decode cX0_startWith 7 = .ok (.aload_n 0, 1) := by decide +kernel
theorem dX0_startWith_8 : decode cX0_startWith 8 = .ok (.iload_n 2, 1) := by decide +kernel
theorem dX0_startWith_9 : decode cX0_startWith 9 = .ok (.putfield 28, 3) := by decide +kernel
theorem dX0_startWith_12 : decode cX0_startWith 12 = .ok (.iconst 0, 1) := by decide +kernel
theorem dX0_startWith_13 : decode cX0_startWith 13 = .ok (.istore_n 3, 1) := by decide +kernel
theorem dX0_startWith_14 : decode cX0_startWith 14 = .ok (.iload_n 3, 1) := by decide +kernel
theorem dX0_startWith_15 : decode cX0_startWith 15 = .ok (.aload_n 0, 1) := by decide +kernel
theorem dX0_startWith_16 : decode cX0_startWith 16 = .ok (.getfield 24, 3) := by decide +kernel
theorem dX0_startWith_19 : decode cX0_startWith 19 = .ok (.getfield 32, 3) := by decide +kernel
theorem dX0_startWith_22 : decode cX0_startWith 22 = .ok (.if_icmp .ge 64, 3) := by decide +kernel
theorem dX0_startWith_25 : decode cX0_startWith 25 = .ok (.iload_n 3, 1) := by decide +kernel
theorem dX0_startWith_26 : decode cX0_startWith 26 = .ok (.istore 4, 2) := by decide +kernel
theorem dX0_startWith_28 : decode cX0_startWith 28 = .ok (.iload 4, 2) := by decide +kernel
theorem dX0_startWith_30 : decode cX0_startWith 30 = .ok (.ifCond .le 42, 3) := by decide +kernel
theorem dX0_startWith_33 : decode cX0_startWith 33 = .ok (.aload_n 0, 1) := by decide +kernel
theorem dX0_startWith_34 : decode cX0_startWith 34 = .ok (.iload_n 3, 1) := by decide +kernel
theorem dX0_startWith_35 : decode cX0_startWith 35 = .ok (.aload_n 0, 1) := by decide +kernel
theorem dX0_startWith_36 : decode cX0_startWith 36 = .ok (.getfield 21, 3) := by decide +kernel
theorem dX0_startWith_39 : decode cX0_startWith 39 = .ok (.iload 4, 2) := by decide +kernel
theorem dX0_startWith_41 : decode cX0_startWith 41 = .ok (.iconst 1, 1) := by decide +kernel
theorem dX0_startWith_42 : decode cX0_startWith 42 = .ok (.isub, 1) := by decide +kernel
theorem dX0_startWith_43 : decode cX0_startWith 43 = .ok (.iaload, 1) := by decide +kernel
theorem dX0_startWith_44 : decode cX0_startWith 44 = .ok (.invokevirtual 37, 3) := by decide +kernel
theorem dX0_startWith_47 : decode cX0_startWith 47 = .ok (.ifCond .eq 25, 3) := by decide +kernel
theorem dX0_startWith_50 : decode cX0_startWith 50 = .ok (.aload_n 0, 1) := by decide +kernel
theorem dX0_startWith_51 : decode cX0_startWith 51 = .ok (.getfield 21, 3) := by decide +kernel
theorem dX0_startWith_54 : decode cX0_startWith 54 = .ok (.iload 4, 2) := by decide +kernel
theorem dX0_startWith_56 : decode cX0_startWith 56 = .ok (.aload_n 0, 1) := by decide +kernel
theorem dX0_startWith_57 : decode cX0_startWith 57 = .ok (.getfield 21, 3) := by decide +kernel
theorem dX0_startWith_60 : decode cX0_startWith 60 = .ok (.iload 4, 2) := by decide +kernel
theorem dX0_startWith_62 : decode cX0_startWith 62 = .ok (.iconst 1, 1) := by decide +kernel
theorem dX0_startWith_63 : decode cX0_startWith 63 = .ok (.isub, 1) := by decide +kernel
theorem dX0_startWith_64 : decode cX0_startWith 64 = .ok (.iaload, 1) := by decide +kernel
theorem dX0_startWith_65 : decode cX0_startWith 65 = .ok (.iastore, 1) := by decide +kernel
theorem dX0_startWith_66 : decode cX0_startWith 66 = .ok (.iinc 4 (-1), 3) := by decide +kernel
theorem dX0_startWith_69 : decode cX0_startWith 69 = .ok (.goto (-41), 3) := by decide +kernel
theorem dX0_startWith_72 : decode cX0_startWith 72 = .ok (.aload_n 0, 1) := by decide +kernel
theorem dX0_startWith_73 : decode cX0_startWith 73 = .ok (.getfield 21, 3) := by decide +kernel
theorem dX0_startWith_76 : decode cX0_startWith 76 = .ok (.iload 4, 2) := by decide +kernel
theorem dX0_startWith_78 : decode cX0_startWith 78 = .ok (.iload_n 3, 1) := by decide +kernel
theorem dX0_startWith_79 : decode cX0_startWith 79 = .ok (.iastore, 1) := by decide +kernel
theorem dX0_startWith_80 : decode cX0_startWith 80 = .ok (.iinc 3 1, 3) := by decide +kernel
theorem dX0_startWith_83 : decode cX0_startWith 83 = .ok (.goto (-69), 3) := by decide +kernel
theorem dX0_startWith_86 : decode cX0_startWith 86 = .ok (.return_, 1) := by decide +kernel
theorem dX0_drawsBefore_0 : decode cX0_drawsBefore 0 = .ok (.aload_n 0, 1) := by decide +kernel
theorem dX0_drawsBefore_1 : decode cX0_drawsBefore 1 = .ok (.getfield 24, 3) := by decide +kernel
theorem dX0_drawsBefore_4 : decode cX0_drawsBefore 4 = .ok (.getfield 41, 3) := by decide +kernel
theorem dX0_drawsBefore_7 : decode cX0_drawsBefore 7 = .ok (.iload_n 1, 1) := by decide +kernel
theorem dX0_drawsBefore_8 : decode cX0_drawsBefore 8 = .ok (.aaload, 1) := by decide +kernel
theorem dX0_drawsBefore_9 : decode cX0_drawsBefore 9 = .ok (.getfield 45, 3) := by decide +kernel
theorem dX0_drawsBefore_12 : decode cX0_drawsBefore 12 = .ok (.istore_n 3, 1) := by decide +kernel
theorem dX0_drawsBefore_13 : decode cX0_drawsBefore 13 = .ok (.aload_n 0, 1) := by decide +kernel
theorem dX0_drawsBefore_14 : decode cX0_drawsBefore 14 = .ok (.getfield 24, 3) := by decide +kernel
theorem dX0_drawsBefore_17 : decode cX0_drawsBefore 17 = .ok (.getfield 41, 3) := by decide +kernel
theorem dX0_drawsBefore_20 : decode cX0_drawsBefore 20 = .ok (.iload_n 2, 1) := by decide +kernel
theorem dX0_drawsBefore_21 : decode cX0_drawsBefore 21 = .ok (.aaload, 1) := by decide +kernel
theorem dX0_drawsBefore_22 : decode cX0_drawsBefore 22 = .ok (.getfield 45, 3) := by decide +kernel
theorem dX0_drawsBefore_25 : decode cX0_drawsBefore 25 = .ok (.istore 4, 2) := by decide +kernel
theorem dX0_drawsBefore_27 : decode cX0_drawsBefore 27 = .ok (.aload_n 0, 1) := by decide +kernel
theorem dX0_drawsBefore_28 : decode cX0_drawsBefore 28 = .ok (.getfield 28, 3) := by decide +kernel
theorem dX0_drawsBefore_31 : decode cX0_drawsBefore 31 = .ok (.iconst 1, 1) := by decide +kernel
theorem dX0_drawsBefore_32 : decode cX0_drawsBefore 32 = .ok (.if_icmp .ne 17, 3) := by decide +kernel
theorem dX0_drawsBefore_35 : decode cX0_drawsBefore 35 = .ok (.iload_n 3, 1) := by decide +kernel
theorem dX0_drawsBefore_36 : decode cX0_drawsBefore 36 = .ok (.iload 4, 2) := by decide +kernel
theorem dX0_drawsBefore_38 : decode cX0_drawsBefore 38 = .ok (.if_icmp .ge 7, 3) := by decide +kernel
theorem dX0_drawsBefore_41 : decode cX0_drawsBefore 41 = .ok (.iconst 1, 1) := by decide +kernel
theorem dX0_drawsBefore_42 : decode cX0_drawsBefore 42 = .ok (.goto 18, 3) := by decide +kernel
theorem dX0_drawsBefore_45 : decode cX0_drawsBefore 45 = .ok (.iconst 0, 1) := by decide +kernel
theorem dX0_drawsBefore_46 : decode cX0_drawsBefore 46 = .ok (.goto 14, 3) := by decide +kernel
theorem dX0_drawsBefore_49 : decode cX0_drawsBefore 49 = .ok (.iload_n 3, 1) := by decide +kernel
theorem dX0_drawsBefore_50 : decode cX0_drawsBefore 50 = .ok (.iload 4, 2) := by decide +kernel
theorem dX0_drawsBefore_52 : decode cX0_drawsBefore 52 = .ok (.if_icmp .le 7, 3) := by decide +kernel
theorem dX0_drawsBefore_55 : decode cX0_drawsBefore 55 = .ok (.iconst 1, 1) := by decide +kernel
theorem dX0_drawsBefore_56 : decode cX0_drawsBefore 56 = .ok (.goto 4, 3) := by decide +kernel
theorem dX0_drawsBefore_59 : decode cX0_drawsBefore 59 = .ok (.iconst 0, 1) := by decide +kernel
theorem dX0_drawsBefore_60 : decode cX0_drawsBefore 60 = .ok (.ireturn, 1) := by decide +kernel
theorem dX0_passDays_0 : decode cX0_passDays 0 = .ok (.iload_n 1, 1) := by decide +kernel
theorem dX0_passDays_1 : decode cX0_passDays 1 = .ok (.istore_n 3, 1) := by decide +kernel
theorem dX0_passDays_2 : decode cX0_passDays 2 = .ok (.iload_n 3, 1) := by decide +kernel
theorem dX0_passDays_3 : decode cX0_passDays 3 = .ok (.iload_n 2, 1) := by decide +kernel
theorem dX0_passDays_4 : decode cX0_passDays 4 = .ok (.if_icmp .ge 23, 3) := by decide +kernel
theorem dX0_passDays_7 : decode cX0_passDays 7 = .ok (.aload_n 0, 1) := by decide +kernel
theorem dX0_passDays_8 : decode cX0_passDays 8 = .ok (.iload_n 3, 1) := by decide +kernel
theorem dX0_passDays_9 : decode cX0_passDays 9 = .ok (.aload_n 0, 1) := by decide +kernel
theorem dX0_passDays_10 : decode cX0_passDays 10 = .ok (.getfield 24, 3) := by decide +kernel
theorem dX0_passDays_13 : decode cX0_passDays 13 = .ok (.getfield 50, 3) := by decide +kernel
theorem dX0_passDays_16 : decode cX0_passDays 16 = .ok (.iload_n 3, 1) := by decide +kernel
theorem dX0_passDays_17 : decode cX0_passDays 17 = .ok (.iaload, 1) := by decide +kernel
theorem dX0_passDays_18 : decode cX0_passDays 18 = .ok (.invokevirtual 53, 3) := by decide +kernel
theorem dX0_passDays_21 : decode cX0_passDays 21 = .ok (.iinc 3 1, 3) := by decide +kernel
theorem dX0_passDays_24 : decode cX0_passDays 24 = .ok (.goto (-22), 3) := by decide +kernel
theorem dX0_passDays_27 : decode cX0_passDays 27 = .ok (.return_, 1) := by decide +kernel
theorem dX0_passDay_0 : decode cX0_passDay 0 = .ok (.aload_n 0, 1) := by decide +kernel
theorem dX0_passDay_1 : decode cX0_passDay 1 = .ok (.getfield 9, 3) := by decide +kernel
theorem dX0_passDay_4 : decode cX0_passDay 4 = .ok (.iload_n 1, 1) := by decide +kernel
theorem dX0_passDay_5 : decode cX0_passDay 5 = .ok (.iaload, 1) := by decide +kernel
theorem dX0_passDay_6 : decode cX0_passDay 6 = .ok (.iload_n 2, 1) := by decide +kernel
theorem dX0_passDay_7 : decode cX0_passDay 7 = .ok (.iadd, 1) := by decide +kernel
theorem dX0_passDay_8 : decode cX0_passDay 8 = .ok (.istore_n 3, 1) := by decide +kernel
theorem dX0_passDay_9 : decode cX0_passDay 9 = .ok (.aload_n 0, 1) := by decide +kernel
theorem dX0_passDay_10 : decode cX0_passDay 10 = .ok (.getfield 15, 3) := by decide +kernel
theorem dX0_passDay_13 : decode cX0_passDay 13 = .ok (.iload_n 1, 1) := by decide +kernel
theorem dX0_passDay_14 : decode cX0_passDay 14 = .ok (.iconst 0, 1) := by decide +kernel
theorem dX0_passDay_15 : decode cX0_passDay 15 = .ok (.iload_n 3, 1) := by decide +kernel
theorem dX0_passDay_16 : decode cX0_passDay 16 = .ok (.aload_n 0, 1) := by decide +kernel
theorem dX0_passDay_17 : decode cX0_passDay 17 = .ok (.getfield 24, 3) := by decide +kernel
theorem dX0_passDay_20 : decode cX0_passDay 20 = .ok (.getfield 57, 3) := by decide +kernel
theorem dX0_passDay_23 : decode cX0_passDay 23 = .ok (.isub, 1) := by decide +kernel
theorem dX0_passDay_24 : decode cX0_passDay 24 = .ok (.invokestatic 60, 3) := by decide +kernel
theorem dX0_passDay_27 : decode cX0_passDay 27 = .ok (.iastore, 1) := by decide +kernel
theorem dX0_passDay_28 : decode cX0_passDay 28 = .ok (.iload_n 3, 1) := by decide +kernel
theorem dX0_passDay_29 : decode cX0_passDay 29 = .ok (.aload_n 0, 1) := by decide +kernel
theorem dX0_passDay_30 : decode cX0_passDay 30 = .ok (.getfield 15, 3) := by decide +kernel
theorem dX0_passDay_33 : decode cX0_passDay 33 = .ok (.iload_n 1, 1) := by decide +kernel
theorem dX0_passDay_34 : decode cX0_passDay 34 = .ok (.iaload, 1) := by decide +kernel
theorem dX0_passDay_35 : decode cX0_passDay 35 = .ok (.isub, 1) := by decide +kernel
theorem dX0_passDay_36 : decode cX0_passDay 36 = .ok (.istore_n 3, 1) := by decide +kernel
theorem dX0_passDay_37 : decode cX0_passDay 37 = .ok (.iconst 0, 1) := by decide +kernel
theorem dX0_passDay_38 : decode cX0_passDay 38 = .ok (.istore 4, 2) := by decide +kernel
theorem dX0_passDay_40 : decode cX0_passDay 40 = .ok (.iload 4, 2) := by decide +kernel
theorem dX0_passDay_42 : decode cX0_passDay 42 = .ok (.aload_n 0, 1) := by decide +kernel
theorem dX0_passDay_43 : decode cX0_passDay 43 = .ok (.getfield 24, 3) := by decide +kernel
theorem dX0_passDay_46 : decode cX0_passDay 46 = .ok (.getfield 32, 3) := by decide +kernel
theorem dX0_passDay_49 : decode cX0_passDay 49 = .ok (.if_icmp .ge 22, 3) := by decide +kernel
theorem dX0_passDay_52 : decode cX0_passDay 52 = .ok (.aload_n 0, 1) := by decide +kernel
theorem dX0_passDay_53 : decode cX0_passDay 53 = .ok (.getfield 18, 3) := by decide +kernel
theorem dX0_passDay_56 : decode cX0_passDay 56 = .ok (.iload_n 1, 1) := by decide +kernel
theorem dX0_passDay_57 : decode cX0_passDay 57 = .ok (.bipush 6, 2) := by decide +kernel
theorem dX0_passDay_59 : decode cX0_passDay 59 = .ok (.imul, 1) := by decide +kernel
theorem dX0_passDay_60 : decode cX0_passDay 60 = .ok (.iload 4, 2) := by decide +kernel
theorem dX0_passDay_62 : decode cX0_passDay 62 = .ok (.iadd, 1) := by decide +kernel
theorem dX0_passDay_63 : decode cX0_passDay 63 = .ok (.iconst 0, 1) := by decide +kernel
theorem dX0_passDay_64 : decode cX0_passDay 64 = .ok (.iastore, 1) := by decide +kernel
theorem dX0_passDay_65 : decode cX0_passDay 65 = .ok (.iinc 4 1, 3) := by decide +kernel
theorem dX0_passDay_68 : decode cX0_passDay 68 = .ok (.goto (-28), 3) := by decide +kernel
theorem dX0_passDay_71 : decode cX0_passDay 71 = .ok (.iload_n 3, 1) := by decide +kernel
theorem dX0_passDay_72 : decode cX0_passDay 72 = .ok (.aload_n 0, 1) := by decide +kernel
theorem dX0_passDay_73 : decode cX0_passDay 73 = .ok (.getfield 28, 3) := by decide +kernel
theorem dX0_passDay_76 : decode cX0_passDay 76 = .ok (.iconst 2, 1) := by decide +kernel
theorem dX0_passDay_77 : decode cX0_passDay 77 = .ok (.if_icmp .ne 12, 3) := by decide +kernel
theorem dX0_passDay_80 : decode cX0_passDay 80 = .ok (.aload_n 0, 1) := by decide +kernel
theorem dX0_passDay_81 : decode cX0_passDay 81 = .ok (.iload_n 1, 1) := by decide +kernel
theorem dX0_passDay_82 : decode cX0_passDay 82 = .ok (.iload_n 3, 1) := by decide +kernel
theorem dX0_passDay_83 : decode cX0_passDay 83 = .ok (.invokevirtual 66, 3) := by decide +kernel
theorem dX0_passDay_86 : decode cX0_passDay 86 = .ok (.goto 9, 3) := by decide +kernel
theorem dX0_passDay_89 : decode cX0_passDay 89 = .ok (.aload_n 0, 1) := by decide +kernel
theorem dX0_passDay_90 : decode cX0_passDay 90 = .ok (.iload_n 1, 1) := by decide +kernel
theorem dX0_passDay_91 : decode cX0_passDay 91 = .ok (.iload_n 3, 1) := by decide +kernel
theorem dX0_passDay_92 : decode cX0_passDay 92 = .ok (.invokevirtual 69, 3) := by decide +kernel
theorem dX0_passDay_95 : decode cX0_passDay 95 = .ok (.isub, 1) := by decide +kernel
theorem dX0_passDay_96 : decode cX0_passDay 96 = .ok (.istore_n 3, 1) := by decide +kernel
theorem dX0_passDay_97 : decode cX0_passDay 97 = .ok (.aload_n 0, 1) := by decide +kernel
theorem dX0_passDay_98 : decode cX0_passDay 98 = .ok (.getfield 9, 3) := by decide +kernel
theorem dX0_passDay_101 : decode cX0_passDay 101 = .ok (.iload_n 1, 1) := by decide +kernel
theorem dX0_passDay_102 : decode cX0_passDay 102 = .ok (.iconst 1, 1) := by decide +kernel
theorem dX0_passDay_103 : decode cX0_passDay 103 = .ok (.iadd, 1) := by decide +kernel
theorem dX0_passDay_104 : decode cX0_passDay 104 = .ok (.iload_n 3, 1) := by decide +kernel
theorem dX0_passDay_105 : decode cX0_passDay 105 = .ok (.aload_n 0, 1) := by decide +kernel
theorem dX0_passDay_106 : decode cX0_passDay 106 = .ok (.getfield 24, 3) := by decide +kernel
theorem dX0_passDay_109 : decode cX0_passDay 109 = .ok (.iload_n 3, 1) := by decide +kernel
theorem dX0_passDay_110 : decode cX0_passDay 110 = .ok (.invokevirtual 72, 3) := by decide +kernel
theorem dX0_passDay_113 : decode cX0_passDay 113 = .ok (.isub, 1) := by decide +kernel
theorem dX0_passDay_114 : decode cX0_passDay 114 = .ok (.iastore, 1) := by decide +kernel
theorem dX0_passDay_115 : decode cX0_passDay 115 = .ok (.return_, 1) := by decide +kernel
theorem dX0_drawInOrder_0 : decode cX0_drawInOrder 0 = .ok (.iconst 0, 1) := by decide +kernel
theorem dX0_drawInOrder_1 : decode cX0_drawInOrder 1 = .ok (.istore_n 3, 1) := by decide +kernel
theorem dX0_drawInOrder_2 : decode cX0_drawInOrder 2 = .ok (.iconst 0, 1) := by decide +kernel
theorem dX0_drawInOrder_3 : decode cX0_drawInOrder 3 = .ok (.istore 4, 2) := by decide +kernel
theorem dX0_drawInOrder_5 : decode cX0_drawInOrder 5 = .ok (.iload 4, 2) := by decide +kernel
theorem dX0_drawInOrder_7 : decode cX0_drawInOrder 7 = .ok (.aload_n 0, 1) := by decide +kernel
theorem dX0_drawInOrder_8 : decode cX0_drawInOrder 8 = .ok (.getfield 24, 3) := by decide +kernel
theorem dX0_drawInOrder_11 : decode cX0_drawInOrder 11 = .ok (.getfield 32, 3) := by decide +kernel
theorem dX0_drawInOrder_14 : decode cX0_drawInOrder 14 = .ok (.if_icmp .ge 69, 3) := by decide +kernel
theorem dX0_drawInOrder_17 : decode cX0_drawInOrder 17 = .ok (.aload_n 0, 1) := by decide +kernel
theorem dX0_drawInOrder_18 : decode cX0_drawInOrder 18 = .ok (.getfield 24, 3) := by decide +kernel
theorem dX0_drawInOrder_21 : decode cX0_drawInOrder 21 = .ok (.getfield 41, 3) := by decide +kernel
theorem dX0_drawInOrder_24 : decode cX0_drawInOrder 24 = .ok (.aload_n 0, 1) := by decide +kernel
theorem dX0_drawInOrder_25 : decode cX0_drawInOrder 25 = .ok (.getfield 21, 3) := by decide +kernel
theorem dX0_drawInOrder_28 : decode cX0_drawInOrder 28 = .ok (.iload 4, 2) := by decide +kernel
theorem dX0_drawInOrder_30 : decode cX0_drawInOrder 30 = .ok (.iaload, 1) := by decide +kernel
theorem dX0_drawInOrder_31 : decode cX0_drawInOrder 31 = .ok (.aaload, 1) := by decide +kernel
theorem dX0_drawInOrder_32 : decode cX0_drawInOrder 32 = .ok (.astore 5, 2) := by decide +kernel
theorem dX0_drawInOrder_34 : decode cX0_drawInOrder 34 = .ok (.aload_n 0, 1) := by decide +kernel
theorem dX0_drawInOrder_35 : decode cX0_drawInOrder 35 = .ok (.getfield 28, 3) := by decide +kernel
theorem dX0_drawInOrder_38 : decode cX0_drawInOrder 38 = .ok (.iconst 3, 1) := by decide +kernel
theorem dX0_drawInOrder_39 : decode cX0_drawInOrder 39 = .ok (.if_icmp .ne 11, 3) := by decide +kernel
theorem dX0_drawInOrder_42 : decode cX0_drawInOrder 42 = .ok (.aload 5, 2) := by decide +kernel
theorem dX0_drawInOrder_44 : decode cX0_drawInOrder 44 = .ok (.getfield 76, 3) := by decide +kernel
theorem dX0_drawInOrder_47 : decode cX0_drawInOrder 47 = .ok (.goto 8, 3) := by decide +kernel
theorem dX0_drawInOrder_50 : decode cX0_drawInOrder 50 = .ok (.aload 5, 2) := by decide +kernel
theorem dX0_drawInOrder_52 : decode cX0_drawInOrder 52 = .ok (.invokevirtual 79, 3) := by decide +kernel
theorem dX0_drawInOrder_55 : decode cX0_drawInOrder 55 = .ok (.istore 6, 2) := by decide +kernel
theorem dX0_drawInOrder_57 : decode cX0_drawInOrder 57 = .ok (.iload_n 3, 1) := by decide +kernel
theorem dX0_drawInOrder_58 : decode cX0_drawInOrder 58 = .ok (.aload_n 0, 1) := by decide +kernel
theorem dX0_drawInOrder_59 : decode cX0_drawInOrder 59 = .ok (.aload_n 0, 1) := by decide +kernel
theorem dX0_drawInOrder_60 : decode cX0_drawInOrder 60 = .ok (.getfield 21, 3) := by decide +kernel
theorem dX0_drawInOrder_63 : decode cX0_drawInOrder 63 = .ok (.iload 4, 2) := by decide +kernel
theorem dX0_drawInOrder_65 : decode cX0_drawInOrder 65 = .ok (.iaload, 1) := by decide +kernel
theorem dX0_drawInOrder_66 : decode cX0_drawInOrder 66 = .ok (.iload_n 1, 1) := by decide +kernel
theorem dX0_drawInOrder_67 : decode cX0_drawInOrder 67 = .ok (.iload 6, 2) := by decide +kernel
theorem dX0_drawInOrder_69 : decode cX0_drawInOrder 69 = .ok (.iload_n 2, 1) := by decide +kernel
theorem dX0_drawInOrder_70 : decode cX0_drawInOrder 70 = .ok (.iload_n 3, 1) := by decide +kernel
theorem dX0_drawInOrder_71 : decode cX0_drawInOrder 71 = .ok (.isub, 1) := by decide +kernel
theorem dX0_drawInOrder_72 : decode cX0_drawInOrder 72 = .ok (.invokevirtual 83, 3) := by decide +kernel
theorem dX0_drawInOrder_75 : decode cX0_drawInOrder 75 = .ok (.iadd, 1) := by decide +kernel
theorem dX0_drawInOrder_76 : decode cX0_drawInOrder 76 = .ok (.istore_n 3, 1) := by decide +kernel
theorem dX0_drawInOrder_77 : decode cX0_drawInOrder 77 = .ok (.iinc 4 1, 3) := by decide +kernel
theorem dX0_drawInOrder_80 : decode cX0_drawInOrder 80 = .ok (.goto (-75), 3) := by decide +kernel
theorem dX0_drawInOrder_83 : decode cX0_drawInOrder 83 = .ok (.iload_n 3, 1) := by decide +kernel
theorem dX0_drawInOrder_84 : decode cX0_drawInOrder 84 = .ok (.ireturn, 1) := by decide +kernel
theorem dX0_drawByTurns_0 : decode cX0_drawByTurns 0 = .ok (.iconst 0, 1) := by decide +kernel
theorem dX0_drawByTurns_1 : decode cX0_drawByTurns 1 = .ok (.istore_n 3, 1) := by decide +kernel
theorem dX0_drawByTurns_2 : decode cX0_drawByTurns 2 = .ok (.iconst 1, 1) := by decide +kernel
theorem dX0_drawByTurns_3 : decode cX0_drawByTurns 3 = .ok (.istore 4, 2) := by decide +kernel
theorem dX0_drawByTurns_5 : decode cX0_drawByTurns 5 = .ok (.iconst 0, 1) := by decide +kernel
theorem dX0_drawByTurns_6 : decode cX0_drawByTurns 6 = .ok (.istore 5, 2) := by decide +kernel
theorem dX0_drawByTurns_8 : decode cX0_drawByTurns 8 = .ok (.iload 5, 2) := by decide +kernel
theorem dX0_drawByTurns_10 : decode cX0_drawByTurns 10 = .ok (.bipush 99, 2) := by decide +kernel
theorem dX0_drawByTurns_12 : decode cX0_drawByTurns 12 = .ok (.if_icmp .gt 101, 3) := by decide +kernel
theorem dX0_drawByTurns_15 : decode cX0_drawByTurns 15 = .ok (.iload 4, 2) := by decide +kernel
theorem dX0_drawByTurns_17 : decode cX0_drawByTurns 17 = .ok (.ifCond .eq 96, 3) := by decide +kernel
theorem dX0_drawByTurns_20 : decode cX0_drawByTurns 20 = .ok (.iload_n 3, 1) := by decide +kernel
theorem dX0_drawByTurns_21 : decode cX0_drawByTurns 21 = .ok (.istore 6, 2) := by decide +kernel
theorem dX0_drawByTurns_23 : decode cX0_drawByTurns 23 = .ok (.iconst 0, 1) := by decide +kernel
theorem dX0_drawByTurns_24 : decode cX0_drawByTurns 24 = .ok (.istore 7, 2) := by decide +kernel
theorem dX0_drawByTurns_26 : decode cX0_drawByTurns 26 = .ok (.iload 7, 2) := by decide +kernel
theorem dX0_drawByTurns_28 : decode cX0_drawByTurns 28 = .ok (.aload_n 0, 1) := by decide +kernel
theorem dX0_drawByTurns_29 : decode cX0_drawByTurns 29 = .ok (.getfield 24, 3) := by decide +kernel
theorem dX0_drawByTurns_32 : decode cX0_drawByTurns 32 = .ok (.getfield 32, 3) := by decide +kernel
theorem dX0_drawByTurns_35 : decode cX0_drawByTurns 35 = .ok (.if_icmp .ge 59, 3) := by decide +kernel
theorem dX0_drawByTurns_38 : decode cX0_drawByTurns 38 = .ok (.aload_n 0, 1) := by decide +kernel
theorem dX0_drawByTurns_39 : decode cX0_drawByTurns 39 = .ok (.getfield 24, 3) := by decide +kernel
theorem dX0_drawByTurns_42 : decode cX0_drawByTurns 42 = .ok (.getfield 41, 3) := by decide +kernel
theorem dX0_drawByTurns_45 : decode cX0_drawByTurns 45 = .ok (.iload 7, 2) := by decide +kernel
theorem dX0_drawByTurns_47 : decode cX0_drawByTurns 47 = .ok (.aaload, 1) := by decide +kernel
theorem dX0_drawByTurns_48 : decode cX0_drawByTurns 48 = .ok (.astore 8, 2) := by decide +kernel
theorem dX0_drawByTurns_50 : decode cX0_drawByTurns 50 = .ok (.aload 8, 2) := by decide +kernel
theorem dX0_drawByTurns_52 : decode cX0_drawByTurns 52 = .ok (.getfield 87, 3) := by decide +kernel
theorem dX0_drawByTurns_55 : decode cX0_drawByTurns 55 = .ok (.aload 8, 2) := by decide +kernel
theorem dX0_drawByTurns_57 : decode cX0_drawByTurns 57 = .ok (.invokevirtual 79, 3) := by decide +kernel
theorem dX0_drawByTurns_60 : decode cX0_drawByTurns 60 = .ok (.aload_n 0, 1) := by decide +kernel
theorem dX0_drawByTurns_61 : decode cX0_drawByTurns 61 = .ok (.iload 7, 2) := by decide +kernel
theorem dX0_drawByTurns_63 : decode cX0_drawByTurns 63 = .ok (.iload_n 1, 1) := by decide +kernel
theorem dX0_drawByTurns_64 : decode cX0_drawByTurns 64 = .ok (.invokevirtual 90, 3) := by decide +kernel
theorem dX0_drawByTurns_67 : decode cX0_drawByTurns 67 = .ok (.isub, 1) := by decide +kernel
theorem dX0_drawByTurns_68 : decode cX0_drawByTurns 68 = .ok (.invokestatic 93, 3) := by decide +kernel
theorem dX0_drawByTurns_71 : decode cX0_drawByTurns 71 = .ok (.istore 9, 2) := by decide +kernel
theorem dX0_drawByTurns_73 : decode cX0_drawByTurns 73 = .ok (.iload_n 3, 1) := by decide +kernel
theorem dX0_drawByTurns_74 : decode cX0_drawByTurns 74 = .ok (.aload_n 0, 1) := by decide +kernel
theorem dX0_drawByTurns_75 : decode cX0_drawByTurns 75 = .ok (.iload 7, 2) := by decide +kernel
theorem dX0_drawByTurns_77 : decode cX0_drawByTurns 77 = .ok (.iload_n 1, 1) := by decide +kernel
theorem dX0_drawByTurns_78 : decode cX0_drawByTurns 78 = .ok (.iload 9, 2) := by decide +kernel
theorem dX0_drawByTurns_80 : decode cX0_drawByTurns 80 = .ok (.iload_n 2, 1) := by decide +kernel
theorem dX0_drawByTurns_81 : decode cX0_drawByTurns 81 = .ok (.iload_n 3, 1) := by decide +kernel
theorem dX0_drawByTurns_82 : decode cX0_drawByTurns 82 = .ok (.isub, 1) := by decide +kernel
theorem dX0_drawByTurns_83 : decode cX0_drawByTurns 83 = .ok (.invokevirtual 83, 3) := by decide +kernel
theorem dX0_drawByTurns_86 : decode cX0_drawByTurns 86 = .ok (.iadd, 1) := by decide +kernel
theorem dX0_drawByTurns_87 : decode cX0_drawByTurns 87 = .ok (.istore_n 3, 1) := by decide +kernel
theorem dX0_drawByTurns_88 : decode cX0_drawByTurns 88 = .ok (.iinc 7 1, 3) := by decide +kernel
theorem dX0_drawByTurns_91 : decode cX0_drawByTurns 91 = .ok (.goto (-65), 3) := by decide +kernel
theorem dX0_drawByTurns_94 : decode cX0_drawByTurns 94 = .ok (.iload_n 3, 1) := by decide +kernel
theorem dX0_drawByTurns_95 : decode cX0_drawByTurns 95 = .ok (.iload 6, 2) := by decide +kernel
theorem dX0_drawByTurns_97 : decode cX0_drawByTurns 97 = .ok (.if_icmp .le 7, 3) := by decide +kernel
theorem dX0_drawByTurns_100 : decode cX0_drawByTurns 100 = .ok (.iconst 1, 1) := by decide +kernel
theorem dX0_drawByTurns_101 : decode cX0_drawByTurns 101 = .ok (.goto 4, 3) := by decide +kernel
theorem dX0_drawByTurns_104 : decode cX0_drawByTurns 104 = .ok (.iconst 0, 1) := by decide +kernel
theorem dX0_drawByTurns_105 : decode cX0_drawByTurns 105 = .ok (.istore 4, 2) := by decide +kernel
theorem dX0_drawByTurns_107 : decode cX0_drawByTurns 107 = .ok (.iinc 5 1, 3) := by decide +kernel
theorem dX0_drawByTurns_110 : decode cX0_drawByTurns 110 = .ok (.goto (-102), 3) := by decide +kernel
theorem dX0_drawByTurns_113 : decode cX0_drawByTurns 113 = .ok (.iload_n 3, 1) := by decide +kernel
theorem dX0_drawByTurns_114 : decode cX0_drawByTurns 114 = .ok (.ireturn, 1) := by decide +kernel
theorem dX0_draw_0 : decode cX0_draw 0 = .ok (.iload_n 3, 1) := by decide +kernel
theorem dX0_draw_1 : decode cX0_draw 1 = .ok (.aload_n 0, 1) := by decide +kernel
theorem dX0_draw_2 : decode cX0_draw 2 = .ok (.getfield 24, 3) := by decide +kernel
theorem dX0_draw_5 : decode cX0_draw 5 = .ok (.iload_n 1, 1) := by decide +kernel
theorem dX0_draw_6 : decode cX0_draw 6 = .ok (.iload 4, 2) := by decide +kernel
theorem dX0_draw_8 : decode cX0_draw 8 = .ok (.invokevirtual 96, 3) := by decide +kernel
theorem dX0_draw_11 : decode cX0_draw 11 = .ok (.invokestatic 93, 3) := by decide +kernel
theorem dX0_draw_14 : decode cX0_draw 14 = .ok (.istore 5, 2) := by decide +kernel
theorem dX0_draw_16 : decode cX0_draw 16 = .ok (.aload_n 0, 1) := by decide +kernel
theorem dX0_draw_17 : decode cX0_draw 17 = .ok (.getfield 18, 3) := by decide +kernel
theorem dX0_draw_20 : decode cX0_draw 20 = .ok (.iload_n 2, 1) := by decide +kernel
theorem dX0_draw_21 : decode cX0_draw 21 = .ok (.bipush 6, 2) := by decide +kernel
theorem dX0_draw_23 : decode cX0_draw 23 = .ok (.imul, 1) := by decide +kernel
theorem dX0_draw_24 : decode cX0_draw 24 = .ok (.iload_n 1, 1) := by decide +kernel
theorem dX0_draw_25 : decode cX0_draw 25 = .ok (.iadd, 1) := by decide +kernel
theorem dX0_draw_26 : decode cX0_draw 26 = .ok (.dup2, 1) := by decide +kernel
theorem dX0_draw_27 : decode cX0_draw 27 = .ok (.iaload, 1) := by decide +kernel
theorem dX0_draw_28 : decode cX0_draw 28 = .ok (.iload 5, 2) := by decide +kernel
theorem dX0_draw_30 : decode cX0_draw 30 = .ok (.iadd, 1) := by decide +kernel
theorem dX0_draw_31 : decode cX0_draw 31 = .ok (.iastore, 1) := by decide +kernel
theorem dX0_draw_32 : decode cX0_draw 32 = .ok (.iload 5, 2) := by decide +kernel
theorem dX0_draw_34 : decode cX0_draw 34 = .ok (.ireturn, 1) := by decide +kernel
theorem dX0_drawnBy_0 : decode cX0_drawnBy 0 = .ok (.aload_n 0, 1) := by decide +kernel
theorem dX0_drawnBy_1 : decode cX0_drawnBy 1 = .ok (.getfield 18, 3) := by decide +kernel
theorem dX0_drawnBy_4 : decode cX0_drawnBy 4 = .ok (.iload_n 2, 1) := by decide +kernel
theorem dX0_drawnBy_5 : decode cX0_drawnBy 5 = .ok (.bipush 6, 2) := by decide +kernel
theorem dX0_drawnBy_7 : decode cX0_drawnBy 7 = .ok (.imul, 1) := by decide +kernel
theorem dX0_drawnBy_8 : decode cX0_drawnBy 8 = .ok (.iload_n 1, 1) := by decide +kernel
theorem dX0_drawnBy_9 : decode cX0_drawnBy 9 = .ok (.iadd, 1) := by decide +kernel
theorem dX0_drawnBy_10 : decode cX0_drawnBy 10 = .ok (.iaload, 1) := by decide +kernel
theorem dX0_drawnBy_11 : decode cX0_drawnBy 11 = .ok (.ireturn, 1) := by decide +kernel
theorem dX0_drawnInAll_0 : decode cX0_drawnInAll 0 = .ok (.iconst 0, 1) := by decide +kernel
theorem dX0_drawnInAll_1 : decode cX0_drawnInAll 1 = .ok (.istore_n 3, 1) := by decide +kernel
theorem dX0_drawnInAll_2 : decode cX0_drawnInAll 2 = .ok (.iconst 0, 1) := by decide +kernel
theorem dX0_drawnInAll_3 : decode cX0_drawnInAll 3 = .ok (.istore 4, 2) := by decide +kernel
theorem dX0_drawnInAll_5 : decode cX0_drawnInAll 5 = .ok (.iload 4, 2) := by decide +kernel
theorem dX0_drawnInAll_7 : decode cX0_drawnInAll 7 = .ok (.iload_n 2, 1) := by decide +kernel
theorem dX0_drawnInAll_8 : decode cX0_drawnInAll 8 = .ok (.if_icmp .ge 19, 3) := by decide +kernel
theorem dX0_drawnInAll_11 : decode cX0_drawnInAll 11 = .ok (.iload_n 3, 1) := by decide +kernel
theorem dX0_drawnInAll_12 : decode cX0_drawnInAll 12 = .ok (.aload_n 0, 1) := by decide +kernel
theorem dX0_drawnInAll_13 : decode cX0_drawnInAll 13 = .ok (.iload_n 1, 1) := by decide +kernel
theorem dX0_drawnInAll_14 : decode cX0_drawnInAll 14 = .ok (.iload 4, 2) := by decide +kernel
theorem dX0_drawnInAll_16 : decode cX0_drawnInAll 16 = .ok (.invokevirtual 90, 3) := by decide +kernel
theorem dX0_drawnInAll_19 : decode cX0_drawnInAll 19 = .ok (.iadd, 1) := by decide +kernel
theorem dX0_drawnInAll_20 : decode cX0_drawnInAll 20 = .ok (.istore_n 3, 1) := by decide +kernel
theorem dX0_drawnInAll_21 : decode cX0_drawnInAll 21 = .ok (.iinc 4 1, 3) := by decide +kernel
theorem dX0_drawnInAll_24 : decode cX0_drawnInAll 24 = .ok (.goto (-19), 3) := by decide +kernel
theorem dX0_drawnInAll_27 : decode cX0_drawnInAll 27 = .ok (.iload_n 3, 1) := by decide +kernel
theorem dX0_drawnInAll_28 : decode cX0_drawnInAll 28 = .ok (.ireturn, 1) := by decide +kernel
theorem dX0_isDry_0 : decode cX0_isDry 0 = .ok (.aload_n 0, 1) := by decide +kernel
theorem dX0_isDry_1 : decode cX0_isDry 1 = .ok (.iload_n 1, 1) := by decide +kernel
theorem dX0_isDry_2 : decode cX0_isDry 2 = .ok (.iload_n 2, 1) := by decide +kernel
theorem dX0_isDry_3 : decode cX0_isDry 3 = .ok (.invokevirtual 90, 3) := by decide +kernel
theorem dX0_isDry_6 : decode cX0_isDry 6 = .ok (.aload_n 0, 1) := by decide +kernel
theorem dX0_isDry_7 : decode cX0_isDry 7 = .ok (.getfield 24, 3) := by decide +kernel
theorem dX0_isDry_10 : decode cX0_isDry 10 = .ok (.getfield 41, 3) := by decide +kernel
theorem dX0_isDry_13 : decode cX0_isDry 13 = .ok (.iload_n 1, 1) := by decide +kernel
theorem dX0_isDry_14 : decode cX0_isDry 14 = .ok (.aaload, 1) := by decide +kernel
theorem dX0_isDry_15 : decode cX0_isDry 15 = .ok (.getfield 76, 3) := by decide +kernel
theorem dX0_isDry_18 : decode cX0_isDry 18 = .ok (.if_icmp .ge 7, 3) := by decide +kernel
theorem dX0_isDry_21 : decode cX0_isDry 21 = .ok (.iconst 1, 1) := by decide +kernel
theorem dX0_isDry_22 : decode cX0_isDry 22 = .ok (.goto 4, 3) := by decide +kernel
theorem dX0_isDry_25 : decode cX0_isDry 25 = .ok (.iconst 0, 1) := by decide +kernel
theorem dX0_isDry_26 : decode cX0_isDry 26 = .ok (.ireturn, 1) := by decide +kernel
theorem dX0_firstDry_0 : decode cX0_firstDry 0 = .ok (.iconst 0, 1) := by decide +kernel
theorem dX0_firstDry_1 : decode cX0_firstDry 1 = .ok (.istore_n 3, 1) := by decide +kernel
theorem dX0_firstDry_2 : decode cX0_firstDry 2 = .ok (.iload_n 3, 1) := by decide +kernel
theorem dX0_firstDry_3 : decode cX0_firstDry 3 = .ok (.iload_n 2, 1) := by decide +kernel
theorem dX0_firstDry_4 : decode cX0_firstDry 4 = .ok (.if_icmp .ge 20, 3) := by decide +kernel
theorem dX0_firstDry_7 : decode cX0_firstDry 7 = .ok (.aload_n 0, 1) := by decide +kernel
theorem dX0_firstDry_8 : decode cX0_firstDry 8 = .ok (.iload_n 1, 1) := by decide +kernel
theorem dX0_firstDry_9 : decode cX0_firstDry 9 = .ok (.iload_n 3, 1) := by decide +kernel
theorem dX0_firstDry_10 : decode cX0_firstDry 10 = .ok (.invokevirtual 99, 3) := by decide +kernel
theorem dX0_firstDry_13 : decode cX0_firstDry 13 = .ok (.ifCond .eq 5, 3) := by decide +kernel
theorem dX0_firstDry_16 : decode cX0_firstDry 16 = .ok (.iload_n 3, 1) := by decide +kernel
theorem dX0_firstDry_17 : decode cX0_firstDry 17 = .ok (.ireturn, 1) := by decide +kernel
theorem dX0_firstDry_18 : decode cX0_firstDry 18 = .ok (.iinc 3 1, 3) := by decide +kernel
theorem dX0_firstDry_21 : decode cX0_firstDry 21 = .ok (.goto (-19), 3) := by decide +kernel
theorem dX0_firstDry_24 : decode cX0_firstDry 24 = .ok (.bipush (-9), 2) := by decide +kernel
theorem dX0_firstDry_26 : decode cX0_firstDry 26 = .ok (.ireturn, 1) := by decide +kernel
theorem dX0_countNeverDry_0 : decode cX0_countNeverDry 0 = .ok (.iconst 0, 1) := by decide +kernel
theorem dX0_countNeverDry_1 : decode cX0_countNeverDry 1 = .ok (.istore_n 2, 1) := by decide +kernel
theorem dX0_countNeverDry_2 : decode cX0_countNeverDry 2 = .ok (.iconst 0, 1) := by decide +kernel
theorem dX0_countNeverDry_3 : decode cX0_countNeverDry 3 = .ok (.istore_n 3, 1) := by decide +kernel
theorem dX0_countNeverDry_4 : decode cX0_countNeverDry 4 = .ok (.iload_n 3, 1) := by decide +kernel
theorem dX0_countNeverDry_5 : decode cX0_countNeverDry 5 = .ok (.aload_n 0, 1) := by decide +kernel
theorem dX0_countNeverDry_6 : decode cX0_countNeverDry 6 = .ok (.getfield 24, 3) := by decide +kernel
theorem dX0_countNeverDry_9 : decode cX0_countNeverDry 9 = .ok (.getfield 32, 3) := by decide +kernel
theorem dX0_countNeverDry_12 : decode cX0_countNeverDry 12 = .ok (.if_icmp .ge 23, 3) := by decide +kernel
theorem dX0_countNeverDry_15 : decode cX0_countNeverDry 15 = .ok (.aload_n 0, 1) := by decide +kernel
theorem dX0_countNeverDry_16 : decode cX0_countNeverDry 16 = .ok (.iload_n 3, 1) := by decide +kernel
theorem dX0_countNeverDry_17 : decode cX0_countNeverDry 17 = .ok (.iload_n 1, 1) := by decide +kernel
theorem dX0_countNeverDry_18 : decode cX0_countNeverDry 18 = .ok (.invokevirtual 102, 3) := by decide +kernel
theorem dX0_countNeverDry_21 : decode cX0_countNeverDry 21 = .ok (.bipush (-9), 2) := by decide +kernel
theorem dX0_countNeverDry_23 : decode cX0_countNeverDry 23 = .ok (.if_icmp .ne 6, 3) := by decide +kernel
theorem dX0_countNeverDry_26 : decode cX0_countNeverDry 26 = .ok (.iinc 2 1, 3) := by decide +kernel
theorem dX0_countNeverDry_29 : decode cX0_countNeverDry 29 = .ok (.iinc 3 1, 3) := by decide +kernel
theorem dX0_countNeverDry_32 : decode cX0_countNeverDry 32 = .ok (.goto (-28), 3) := by decide +kernel
theorem dX0_countNeverDry_35 : decode cX0_countNeverDry 35 = .ok (.iload_n 2, 1) := by decide +kernel
theorem dX0_countNeverDry_36 : decode cX0_countNeverDry 36 = .ok (.ireturn, 1) := by decide +kernel
theorem dX0_allHaveNeeds_0 : decode cX0_allHaveNeeds 0 = .ok (.aload_n 0, 1) := by decide +kernel
theorem dX0_allHaveNeeds_1 : decode cX0_allHaveNeeds 1 = .ok (.iload_n 1, 1) := by decide +kernel
theorem dX0_allHaveNeeds_2 : decode cX0_allHaveNeeds 2 = .ok (.iconst 3, 1) := by decide +kernel
theorem dX0_allHaveNeeds_3 : decode cX0_allHaveNeeds 3 = .ok (.invokevirtual 105, 3) := by decide +kernel
theorem dX0_allHaveNeeds_6 : decode cX0_allHaveNeeds 6 = .ok (.iconst 0, 1) := by decide +kernel
theorem dX0_allHaveNeeds_7 : decode cX0_allHaveNeeds 7 = .ok (.istore_n 3, 1) := by decide +kernel
theorem dX0_allHaveNeeds_8 : decode cX0_allHaveNeeds 8 = .ok (.iload_n 3, 1) := by decide +kernel
theorem dX0_allHaveNeeds_9 : decode cX0_allHaveNeeds 9 = .ok (.iload_n 2, 1) := by decide +kernel
theorem dX0_allHaveNeeds_10 : decode cX0_allHaveNeeds 10 = .ok (.if_icmp .ge 56, 3) := by decide +kernel
theorem dX0_allHaveNeeds_13 : decode cX0_allHaveNeeds 13 = .ok (.aload_n 0, 1) := by decide +kernel
theorem dX0_allHaveNeeds_14 : decode cX0_allHaveNeeds 14 = .ok (.iload_n 3, 1) := by decide +kernel
theorem dX0_allHaveNeeds_15 : decode cX0_allHaveNeeds 15 = .ok (.aload_n 0, 1) := by decide +kernel
theorem dX0_allHaveNeeds_16 : decode cX0_allHaveNeeds 16 = .ok (.getfield 24, 3) := by decide +kernel
theorem dX0_allHaveNeeds_19 : decode cX0_allHaveNeeds 19 = .ok (.getfield 50, 3) := by decide +kernel
theorem dX0_allHaveNeeds_22 : decode cX0_allHaveNeeds 22 = .ok (.iload_n 3, 1) := by decide +kernel
theorem dX0_allHaveNeeds_23 : decode cX0_allHaveNeeds 23 = .ok (.iaload, 1) := by decide +kernel
theorem dX0_allHaveNeeds_24 : decode cX0_allHaveNeeds 24 = .ok (.invokevirtual 53, 3) := by decide +kernel
theorem dX0_allHaveNeeds_27 : decode cX0_allHaveNeeds 27 = .ok (.iconst 0, 1) := by decide +kernel
theorem dX0_allHaveNeeds_28 : decode cX0_allHaveNeeds 28 = .ok (.istore 4, 2) := by decide +kernel
theorem dX0_allHaveNeeds_30 : decode cX0_allHaveNeeds 30 = .ok (.iload 4, 2) := by decide +kernel
theorem dX0_allHaveNeeds_32 : decode cX0_allHaveNeeds 32 = .ok (.aload_n 0, 1) := by decide +kernel
theorem dX0_allHaveNeeds_33 : decode cX0_allHaveNeeds 33 = .ok (.getfield 24, 3) := by decide +kernel
theorem dX0_allHaveNeeds_36 : decode cX0_allHaveNeeds 36 = .ok (.getfield 32, 3) := by decide +kernel
theorem dX0_allHaveNeeds_39 : decode cX0_allHaveNeeds 39 = .ok (.if_icmp .ge 21, 3) := by decide +kernel
theorem dX0_allHaveNeeds_42 : decode cX0_allHaveNeeds 42 = .ok (.aload_n 0, 1) := by decide +kernel
theorem dX0_allHaveNeeds_43 : decode cX0_allHaveNeeds 43 = .ok (.iload 4, 2) := by decide +kernel
theorem dX0_allHaveNeeds_45 : decode cX0_allHaveNeeds 45 = .ok (.iload_n 3, 1) := by decide +kernel
theorem dX0_allHaveNeeds_46 : decode cX0_allHaveNeeds 46 = .ok (.invokevirtual 99, 3) := by decide +kernel
theorem dX0_allHaveNeeds_49 : decode cX0_allHaveNeeds 49 = .ok (.ifCond .eq 5, 3) := by decide +kernel
theorem dX0_allHaveNeeds_52 : decode cX0_allHaveNeeds 52 = .ok (.iconst 0, 1) := by decide +kernel
theorem dX0_allHaveNeeds_53 : decode cX0_allHaveNeeds 53 = .ok (.ireturn, 1) := by decide +kernel
theorem dX0_allHaveNeeds_54 : decode cX0_allHaveNeeds 54 = .ok (.iinc 4 1, 3) := by decide +kernel
theorem dX0_allHaveNeeds_57 : decode cX0_allHaveNeeds 57 = .ok (.goto (-27), 3) := by decide +kernel
theorem dX0_allHaveNeeds_60 : decode cX0_allHaveNeeds 60 = .ok (.iinc 3 1, 3) := by decide +kernel
theorem dX0_allHaveNeeds_63 : decode cX0_allHaveNeeds 63 = .ok (.goto (-55), 3) := by decide +kernel
theorem dX0_allHaveNeeds_66 : decode cX0_allHaveNeeds 66 = .ok (.iconst 1, 1) := by decide +kernel
theorem dX0_allHaveNeeds_67 : decode cX0_allHaveNeeds 67 = .ok (.ireturn, 1) := by decide +kernel
theorem dX1_init_0 : decode cX1_init 0 = .ok (.aload_n 0, 1) := by decide +kernel
theorem dX1_init_1 : decode cX1_init 1 = .ok (.invokespecial 3, 3) := by decide +kernel
theorem dX1_init_4 : decode cX1_init 4 = .ok (.aload_n 0, 1) := by decide +kernel
theorem dX1_init_5 : decode cX1_init 5 = .ok (.bipush 8, 2) := by decide +kernel
theorem dX1_init_7 : decode cX1_init 7 = .ok (.newarray .int, 2) := by decide +kernel
theorem dX1_init_9 : decode cX1_init 9 = .ok (.putfield 9, 3) := by decide +kernel
theorem dX1_init_12 : decode cX1_init 12 = .ok (.aload_n 0, 1) := by decide +kernel
theorem dX1_init_13 : decode cX1_init 13 = .ok (.bipush 8, 2) := by decide +kernel
theorem dX1_init_15 : decode cX1_init 15 = .ok (.newarray .int, 2) := by decide +kernel
theorem dX1_init_17 : decode cX1_init 17 = .ok (.putfield 15, 3) := by decide +kernel
theorem dX1_init_20 : decode cX1_init 20 = .ok (.return_, 1) := by decide +kernel
theorem dX1_addOne_0 : decode cX1_addOne 0 = .ok (.aload_n 0, 1) := by decide +kernel
theorem dX1_addOne_1 : decode cX1_addOne 1 = .ok (.getfield 18, 3) := by decide +kernel
theorem dX1_addOne_4 : decode cX1_addOne 4 = .ok (.istore_n 3, 1) := by decide +kernel
theorem dX1_addOne_5 : decode cX1_addOne 5 = .ok (.aload_n 0, 1) := by decide +kernel
theorem dX1_addOne_6 : decode cX1_addOne 6 = .ok (.getfield 9, 3) := by decide +kernel
theorem dX1_addOne_9 : decode cX1_addOne 9 = .ok (.iload_n 3, 1) := by decide +kernel
theorem dX1_addOne_10 : decode cX1_addOne 10 = .ok (.iload_n 1, 1) := by decide +kernel
theorem dX1_addOne_11 : decode cX1_addOne 11 = .ok (.iastore, 1) := by decide +kernel
theorem dX1_addOne_12 : decode cX1_addOne 12 = .ok (.aload_n 0, 1) := by decide +kernel
theorem dX1_addOne_13 : decode cX1_addOne 13 = .ok (.getfield 15, 3) := by decide +kernel
theorem dX1_addOne_16 : decode cX1_addOne 16 = .ok (.iload_n 3, 1) := by decide +kernel
theorem dX1_addOne_17 : decode cX1_addOne 17 = .ok (.iload_n 2, 1) := by decide +kernel
theorem dX1_addOne_18 : decode cX1_addOne 18 = .ok (.iastore, 1) := by decide +kernel
theorem dX1_addOne_19 : decode cX1_addOne 19 = .ok (.aload_n 0, 1) := by decide +kernel
theorem dX1_addOne_20 : decode cX1_addOne 20 = .ok (.dup, 1) := by decide +kernel
theorem dX1_addOne_21 : decode cX1_addOne 21 = .ok (.getfield 18, 3) := by decide +kernel
theorem dX1_addOne_24 : decode cX1_addOne 24 = .ok (.iconst 1, 1) := by decide +kernel
theorem dX1_addOne_25 : decode cX1_addOne 25 = .ok (.iadd, 1) := by decide +kernel
theorem dX1_addOne_26 : decode cX1_addOne 26 = .ok (.putfield 18, 3) := by decide +kernel
theorem dX1_addOne_29 : decode cX1_addOne 29 = .ok (.iload_n 3, 1) := by decide +kernel
theorem dX1_addOne_30 : decode cX1_addOne 30 = .ok (.ireturn, 1) := by decide +kernel
theorem dX1_lastDay_0 : decode cX1_lastDay 0 = .ok (.iconst 0, 1) := by decide +kernel
theorem dX1_lastDay_1 : decode cX1_lastDay 1 = .ok (.istore_n 1, 1) := by decide +kernel
theorem dX1_lastDay_2 : decode cX1_lastDay 2 = .ok (.iconst 0, 1) := by decide +kernel
theorem dX1_lastDay_3 : decode cX1_lastDay 3 = .ok (.istore_n 2, 1) := by decide +kernel
theorem dX1_lastDay_4 : decode cX1_lastDay 4 = .ok (.iload_n 2, 1) := by decide +kernel
theorem dX1_lastDay_5 : decode cX1_lastDay 5 = .ok (.aload_n 0, 1) := by decide +kernel
theorem dX1_lastDay_6 : decode cX1_lastDay 6 = .ok (.getfield 18, 3) := by decide +kernel
theorem dX1_lastDay_9 : decode cX1_lastDay 9 = .ok (.if_icmp .ge 20, 3) := by decide +kernel
theorem dX1_lastDay_12 : decode cX1_lastDay 12 = .ok (.iload_n 1, 1) := by decide +kernel
theorem dX1_lastDay_13 : decode cX1_lastDay 13 = .ok (.aload_n 0, 1) := by decide +kernel
theorem dX1_lastDay_14 : decode cX1_lastDay 14 = .ok (.getfield 9, 3) := by decide +kernel
theorem dX1_lastDay_17 : decode cX1_lastDay 17 = .ok (.iload_n 2, 1) := by decide +kernel
theorem dX1_lastDay_18 : decode cX1_lastDay 18 = .ok (.iaload, 1) := by decide +kernel
theorem dX1_lastDay_19 : decode cX1_lastDay 19 = .ok (.invokestatic 22, 3) := by decide +kernel
theorem dX1_lastDay_22 : decode cX1_lastDay 22 = .ok (.istore_n 1, 1) := by decide +kernel
theorem dX1_lastDay_23 : decode cX1_lastDay 23 = .ok (.iinc 2 1, 3) := by decide +kernel
theorem dX1_lastDay_26 : decode cX1_lastDay 26 = .ok (.goto (-22), 3) := by decide +kernel
theorem dX1_lastDay_29 : decode cX1_lastDay 29 = .ok (.iload_n 1, 1) := by decide +kernel
theorem dX1_lastDay_30 : decode cX1_lastDay 30 = .ok (.ireturn, 1) := by decide +kernel
theorem dX1_holdAhead_0 : decode cX1_holdAhead 0 = .ok (.iconst 0, 1) := by decide +kernel
theorem dX1_holdAhead_1 : decode cX1_holdAhead 1 = .ok (.istore_n 3, 1) := by decide +kernel
theorem dX1_holdAhead_2 : decode cX1_holdAhead 2 = .ok (.iload_n 3, 1) := by decide +kernel
theorem dX1_holdAhead_3 : decode cX1_holdAhead 3 = .ok (.aload_n 0, 1) := by decide +kernel
theorem dX1_holdAhead_4 : decode cX1_holdAhead 4 = .ok (.getfield 18, 3) := by decide +kernel
theorem dX1_holdAhead_7 : decode cX1_holdAhead 7 = .ok (.if_icmp .ge 31, 3) := by decide +kernel
theorem dX1_holdAhead_10 : decode cX1_holdAhead 10 = .ok (.aload_n 0, 1) := by decide +kernel
theorem dX1_holdAhead_11 : decode cX1_holdAhead 11 = .ok (.getfield 9, 3) := by decide +kernel
theorem dX1_holdAhead_14 : decode cX1_holdAhead 14 = .ok (.iload_n 3, 1) := by decide +kernel
theorem dX1_holdAhead_15 : decode cX1_holdAhead 15 = .ok (.iaload, 1) := by decide +kernel
theorem dX1_holdAhead_16 : decode cX1_holdAhead 16 = .ok (.iload_n 1, 1) := by decide +kernel
theorem dX1_holdAhead_17 : decode cX1_holdAhead 17 = .ok (.if_icmp .ne 15, 3) := by decide +kernel
theorem dX1_holdAhead_20 : decode cX1_holdAhead 20 = .ok (.aload_n 0, 1) := by decide +kernel
theorem dX1_holdAhead_21 : decode cX1_holdAhead 21 = .ok (.getfield 15, 3) := by decide +kernel
theorem dX1_holdAhead_24 : decode cX1_holdAhead 24 = .ok (.iload_n 3, 1) := by decide +kernel
theorem dX1_holdAhead_25 : decode cX1_holdAhead 25 = .ok (.iaload, 1) := by decide +kernel
theorem dX1_holdAhead_26 : decode cX1_holdAhead 26 = .ok (.iload_n 2, 1) := by decide +kernel
theorem dX1_holdAhead_27 : decode cX1_holdAhead 27 = .ok (.if_icmp .eq 5, 3) := by decide +kernel
theorem dX1_holdAhead_30 : decode cX1_holdAhead 30 = .ok (.iconst 0, 1) := by decide +kernel
theorem dX1_holdAhead_31 : decode cX1_holdAhead 31 = .ok (.ireturn, 1) := by decide +kernel
theorem dX1_holdAhead_32 : decode cX1_holdAhead 32 = .ok (.iinc 3 1, 3) := by decide +kernel
theorem dX1_holdAhead_35 : decode cX1_holdAhead 35 = .ok (.goto (-33), 3) := by decide +kernel
theorem dX1_holdAhead_38 : decode cX1_holdAhead 38 = .ok (.iconst 1, 1) := by decide +kernel
theorem dX1_holdAhead_39 : decode cX1_holdAhead 39 = .ok (.ireturn, 1) := by decide +kernel
theorem dX2_init_0 : decode cX2_init 0 = .ok (.aload_n 0, 1) := by decide +kernel
theorem dX2_init_1 : decode cX2_init 1 = .ok (.invokespecial 3, 3) := by decide +kernel
theorem dX2_init_4 : decode cX2_init 4 = .ok (.aload_n 0, 1) := by decide +kernel
theorem dX2_init_5 : decode cX2_init 5 = .ok (.bipush 60, 2) := by decide +kernel
theorem dX2_init_7 : decode cX2_init 7 = .ok (.newarray .int, 2) := by decide +kernel
theorem dX2_init_9 : decode cX2_init 9 = .ok (.putfield 9, 3) := by decide +kernel
theorem dX2_init_12 : decode cX2_init 12 = .ok (.aload_n 0, 1) := by decide +kernel
theorem dX2_init_13 : decode cX2_init 13 = .ok (.iconst (-1), 1) := by decide +kernel
theorem dX2_init_14 : decode cX2_init 14 = .ok (.putfield 15, 3) := by decide +kernel
theorem dX2_init_17 : decode cX2_init 17 = .ok (.return_, 1) := by decide +kernel
theorem dX2_makeRow_0 : decode cX2_makeRow 0 = .ok (.aload_n 0, 1) := by decide +kernel
theorem dX2_makeRow_1 : decode cX2_makeRow 1 = .ok (.iload_n 1, 1) := by decide +kernel
theorem dX2_makeRow_2 : decode cX2_makeRow 2 = .ok (.putfield 15, 3) := by decide +kernel
theorem dX2_makeRow_5 : decode cX2_makeRow 5 = .ok (.aload_n 0, 1) := by decide +kernel
theorem dX2_makeRow_6 : decode cX2_makeRow 6 = .ok (.iload_n 2, 1) := by decide +kernel
theorem dX2_makeRow_7 : decode cX2_makeRow 7 = .ok (.putfield 19, 3) := by decide +kernel
theorem dX2_makeRow_10 : decode cX2_makeRow 10 = .ok (.iconst 0, 1) := by decide +kernel
theorem dX2_makeRow_11 : decode cX2_makeRow 11 = .ok (.istore_n 3, 1) := by decide +kernel
theorem dX2_makeRow_12 : decode cX2_makeRow 12 = .ok (.iload_n 3, 1) := by decide +kernel
theorem dX2_makeRow_13 : decode cX2_makeRow 13 = .ok (.iload_n 2, 1) := by decide +kernel
theorem dX2_makeRow_14 : decode cX2_makeRow 14 = .ok (.if_icmp .ge 16, 3) := by decide +kernel
theorem dX2_makeRow_17 : decode cX2_makeRow 17 = .ok (.aload_n 0, 1) := by decide +kernel
theorem dX2_makeRow_18 : decode cX2_makeRow 18 = .ok (.getfield 9, 3) := by decide +kernel
theorem dX2_makeRow_21 : decode cX2_makeRow 21 = .ok (.iload_n 3, 1) := by decide +kernel
theorem dX2_makeRow_22 : decode cX2_makeRow 22 = .ok (.iconst 0, 1) := by decide +kernel
theorem dX2_makeRow_23 : decode cX2_makeRow 23 = .ok (.iastore, 1) := by decide +kernel
theorem dX2_makeRow_24 : decode cX2_makeRow 24 = .ok (.iinc 3 1, 3) := by decide +kernel
theorem dX2_makeRow_27 : decode cX2_makeRow 27 = .ok (.goto (-15), 3) := by decide +kernel
theorem dX2_makeRow_30 : decode cX2_makeRow 30 = .ok (.return_, 1) := by decide +kernel
theorem dX2_hasCells_0 : decode cX2_hasCells 0 = .ok (.iload_n 1, 1) := by decide +kernel
theorem dX2_hasCells_1 : decode cX2_hasCells 1 = .ok (.ifCond .lt 29, 3) := by decide +kernel
theorem dX2_hasCells_4 : decode cX2_hasCells 4 = .ok (.iload_n 1, 1) := by decide +kernel
theorem dX2_hasCells_5 : decode cX2_hasCells 5 = .ok (.aload_n 0, 1) := by decide +kernel
theorem dX2_hasCells_6 : decode cX2_hasCells 6 = .ok (.getfield 19, 3) := by decide +kernel
theorem dX2_hasCells_9 : decode cX2_hasCells 9 = .ok (.if_icmp .gt 21, 3) := by decide +kernel
theorem dX2_hasCells_12 : decode cX2_hasCells 12 = .ok (.iload_n 2, 1) := by decide +kernel
theorem dX2_hasCells_13 : decode cX2_hasCells 13 = .ok (.ifCond .lt 17, 3) := by decide +kernel
theorem dX2_hasCells_16 : decode cX2_hasCells 16 = .ok (.iload_n 2, 1) := by decide +kernel
theorem dX2_hasCells_17 : decode cX2_hasCells 17 = .ok (.aload_n 0, 1) := by decide +kernel
theorem dX2_hasCells_18 : decode cX2_hasCells 18 = .ok (.getfield 19, 3) := by decide +kernel
theorem dX2_hasCells_21 : decode cX2_hasCells 21 = .ok (.iload_n 1, 1) := by decide +kernel
theorem dX2_hasCells_22 : decode cX2_hasCells 22 = .ok (.isub, 1) := by decide +kernel
theorem dX2_hasCells_23 : decode cX2_hasCells 23 = .ok (.if_icmp .gt 7, 3) := by decide +kernel
theorem dX2_hasCells_26 : decode cX2_hasCells 26 = .ok (.iconst 1, 1) := by decide +kernel
theorem dX2_hasCells_27 : decode cX2_hasCells 27 = .ok (.goto 4, 3) := by decide +kernel
theorem dX2_hasCells_30 : decode cX2_hasCells 30 = .ok (.iconst 0, 1) := by decide +kernel
theorem dX2_hasCells_31 : decode cX2_hasCells 31 = .ok (.ireturn, 1) := by decide +kernel
theorem dX2_faultAsLane_0 : decode cX2_faultAsLane 0 = .ok (.aload_n 0, 1) := by decide +kernel
theorem dX2_faultAsLane_1 : decode cX2_faultAsLane 1 = .ok (.getfield 15, 3) := by decide +kernel
theorem dX2_faultAsLane_4 : decode cX2_faultAsLane 4 = .ok (.iconst (-1), 1) := by decide +kernel
theorem dX2_faultAsLane_5 : decode cX2_faultAsLane 5 = .ok (.if_icmp .ne 5, 3) := by decide +kernel
theorem dX2_faultAsLane_8 : decode cX2_faultAsLane 8 = .ok (.iconst 1, 1) := by decide +kernel
theorem dX2_faultAsLane_9 : decode cX2_faultAsLane 9 = .ok (.ireturn, 1) := by decide +kernel
theorem dX2_faultAsLane_10 : decode cX2_faultAsLane 10 = .ok (.aload_n 0, 1) := by decide +kernel
theorem dX2_faultAsLane_11 : decode cX2_faultAsLane 11 = .ok (.getfield 15, 3) := by decide +kernel
theorem dX2_faultAsLane_14 : decode cX2_faultAsLane 14 = .ok (.iload_n 1, 1) := by decide +kernel
theorem dX2_faultAsLane_15 : decode cX2_faultAsLane 15 = .ok (.if_icmp .ne 7, 3) := by decide +kernel
theorem dX2_faultAsLane_18 : decode cX2_faultAsLane 18 = .ok (.iconst 0, 1) := by decide +kernel
theorem dX2_faultAsLane_19 : decode cX2_faultAsLane 19 = .ok (.goto 4, 3) := by decide +kernel
theorem dX2_faultAsLane_22 : decode cX2_faultAsLane 22 = .ok (.iconst 2, 1) := by decide +kernel
theorem dX2_faultAsLane_23 : decode cX2_faultAsLane 23 = .ok (.ireturn, 1) := by decide +kernel
theorem dX2_cutToLane_0 : decode cX2_cutToLane 0 = .ok (.aload_n 0, 1) := by decide +kernel
theorem dX2_cutToLane_1 : decode cX2_cutToLane 1 = .ok (.getfield 15, 3) := by decide +kernel
theorem dX2_cutToLane_4 : decode cX2_cutToLane 4 = .ok (.ifCond .ne 6, 3) := by decide +kernel
theorem dX2_cutToLane_7 : decode cX2_cutToLane 7 = .ok (.iload_n 1, 1) := by decide +kernel
theorem dX2_cutToLane_8 : decode cX2_cutToLane 8 = .ok (.i2b, 1) := by decide +kernel
theorem dX2_cutToLane_9 : decode cX2_cutToLane 9 = .ok (.ireturn, 1) := by decide +kernel
theorem dX2_cutToLane_10 : decode cX2_cutToLane 10 = .ok (.aload_n 0, 1) := by decide +kernel
theorem dX2_cutToLane_11 : decode cX2_cutToLane 11 = .ok (.getfield 15, 3) := by decide +kernel
theorem dX2_cutToLane_14 : decode cX2_cutToLane 14 = .ok (.iconst 1, 1) := by decide +kernel
theorem dX2_cutToLane_15 : decode cX2_cutToLane 15 = .ok (.if_icmp .ne 8, 3) := by decide +kernel
theorem dX2_cutToLane_18 : decode cX2_cutToLane 18 = .ok (.iload_n 1, 1) := by decide +kernel
theorem dX2_cutToLane_19 : decode cX2_cutToLane 19 = .ok (.i2s, 1) := by decide +kernel
theorem dX2_cutToLane_20 : decode cX2_cutToLane 20 = .ok (.goto 4, 3) := by decide +kernel
theorem dX2_cutToLane_23 : decode cX2_cutToLane 23 = .ok (.iload_n 1, 1) := by decide +kernel
theorem dX2_cutToLane_24 : decode cX2_cutToLane 24 = .ok (.ireturn, 1) := by decide +kernel
theorem dX3_init_0 : decode cX3_init 0 = .ok (.aload_n 0, 1) := by decide +kernel
theorem dX3_init_1 : decode cX3_init 1 = .ok (.invokespecial 3, 3) := by decide +kernel
theorem dX3_init_4 : decode cX3_init 4 = .ok (.return_, 1) := by decide +kernel
theorem dX3_wants_0 : decode cX3_wants 0 = .ok (.aload_n 0, 1) := by decide +kernel
theorem dX3_wants_1 : decode cX3_wants 1 = .ok (.getfield 9, 3) := by decide +kernel
theorem dX3_wants_4 : decode cX3_wants 4 = .ok (.iconst 2, 1) := by decide +kernel
theorem dX3_wants_5 : decode cX3_wants 5 = .ok (.if_icmp .ne 17, 3) := by decide +kernel
theorem dX3_wants_8 : decode cX3_wants 8 = .ok (.aload_n 0, 1) := by decide +kernel
theorem dX3_wants_9 : decode cX3_wants 9 = .ok (.getfield 15, 3) := by decide +kernel
theorem dX3_wants_12 : decode cX3_wants 12 = .ok (.aload_n 0, 1) := by decide +kernel
theorem dX3_wants_13 : decode cX3_wants 13 = .ok (.getfield 15, 3) := by decide +kernel
theorem dX3_wants_16 : decode cX3_wants 16 = .ok (.iconst 2, 1) := by decide +kernel
theorem dX3_wants_17 : decode cX3_wants 17 = .ok (.idiv, 1) := by decide +kernel
theorem dX3_wants_18 : decode cX3_wants 18 = .ok (.iadd, 1) := by decide +kernel
theorem dX3_wants_19 : decode cX3_wants 19 = .ok (.iconst 1, 1) := by decide +kernel
theorem dX3_wants_20 : decode cX3_wants 20 = .ok (.iadd, 1) := by decide +kernel
theorem dX3_wants_21 : decode cX3_wants 21 = .ok (.ireturn, 1) := by decide +kernel
theorem dX3_wants_22 : decode cX3_wants 22 = .ok (.aload_n 0, 1) := by decide +kernel
theorem dX3_wants_23 : decode cX3_wants 23 = .ok (.getfield 9, 3) := by decide +kernel
theorem dX3_wants_26 : decode cX3_wants 26 = .ok (.iconst 1, 1) := by decide +kernel
theorem dX3_wants_27 : decode cX3_wants 27 = .ok (.if_icmp .ne 17, 3) := by decide +kernel
theorem dX3_wants_30 : decode cX3_wants 30 = .ok (.aload_n 0, 1) := by decide +kernel
theorem dX3_wants_31 : decode cX3_wants 31 = .ok (.getfield 15, 3) := by decide +kernel
theorem dX3_wants_34 : decode cX3_wants 34 = .ok (.aload_n 0, 1) := by decide +kernel
theorem dX3_wants_35 : decode cX3_wants 35 = .ok (.getfield 15, 3) := by decide +kernel
theorem dX3_wants_38 : decode cX3_wants 38 = .ok (.iconst 2, 1) := by decide +kernel
theorem dX3_wants_39 : decode cX3_wants 39 = .ok (.idiv, 1) := by decide +kernel
theorem dX3_wants_40 : decode cX3_wants 40 = .ok (.iadd, 1) := by decide +kernel
theorem dX3_wants_41 : decode cX3_wants 41 = .ok (.goto 7, 3) := by decide +kernel
theorem dX3_wants_44 : decode cX3_wants 44 = .ok (.aload_n 0, 1) := by decide +kernel
theorem dX3_wants_45 : decode cX3_wants 45 = .ok (.getfield 15, 3) := by decide +kernel
theorem dX3_wants_48 : decode cX3_wants 48 = .ok (.ireturn, 1) := by decide +kernel
theorem dX4_firstFault_0 : decode cX4_firstFault 0 = .ok (.iconst 0, 1) := by decide +kernel
theorem dX4_firstFault_1 : decode cX4_firstFault 1 = .ok (.istore_n 3, 1) := by decide +kernel
theorem dX4_firstFault_2 : decode cX4_firstFault 2 = .ok (.iload_n 3, 1) := by decide +kernel
theorem dX4_firstFault_3 : decode cX4_firstFault 3 = .ok (.iload_n 2, 1) := by decide +kernel
theorem dX4_firstFault_4 : decode cX4_firstFault 4 = .ok (.if_icmp .ge 57, 3) := by decide +kernel
theorem dX4_firstFault_7 : decode cX4_firstFault 7 = .ok (.aload_n 0, 1) := by decide +kernel
theorem dX4_firstFault_8 : decode cX4_firstFault 8 = .ok (.getfield 9, 3) := by decide +kernel
theorem dX4_firstFault_11 : decode cX4_firstFault 11 = .ok (.iload_n 1, 1) := by decide +kernel
theorem dX4_firstFault_12 : decode cX4_firstFault 12 = .ok (.iload_n 3, 1) := by decide +kernel
theorem dX4_firstFault_13 : decode cX4_firstFault 13 = .ok (.iadd, 1) := by decide +kernel
theorem dX4_firstFault_14 : decode cX4_firstFault 14 = .ok (.iaload, 1) := by decide +kernel
theorem dX4_firstFault_15 : decode cX4_firstFault 15 = .ok (.istore 4, 2) := by decide +kernel
theorem dX4_firstFault_17 : decode cX4_firstFault 17 = .ok (.iload_n 3, 1) := by decide +kernel
theorem dX4_firstFault_18 : decode cX4_firstFault 18 = .ok (.iload 4, 2) := by decide +kernel
theorem dX4_firstFault_20 : decode cX4_firstFault 20 = .ok (.invokestatic 15, 3) := by decide +kernel
theorem dX4_firstFault_23 : decode cX4_firstFault 23 = .ok (.ifCond .ne 5, 3) := by decide +kernel
theorem dX4_firstFault_26 : decode cX4_firstFault 26 = .ok (.iload_n 3, 1) := by decide +kernel
theorem dX4_firstFault_27 : decode cX4_firstFault 27 = .ok (.ireturn, 1) := by decide +kernel
theorem dX4_firstFault_28 : decode cX4_firstFault 28 = .ok (.iload_n 3, 1) := by decide +kernel
theorem dX4_firstFault_29 : decode cX4_firstFault 29 = .ok (.iconst 2, 1) := by decide +kernel
theorem dX4_firstFault_30 : decode cX4_firstFault 30 = .ok (.if_icmp .ne 25, 3) := by decide +kernel
theorem dX4_firstFault_33 : decode cX4_firstFault 33 = .ok (.iload 4, 2) := by decide +kernel
theorem dX4_firstFault_35 : decode cX4_firstFault 35 = .ok (.bipush 48, 2) := by decide +kernel
theorem dX4_firstFault_37 : decode cX4_firstFault 37 = .ok (.if_icmp .ne 18, 3) := by decide +kernel
theorem dX4_firstFault_40 : decode cX4_firstFault 40 = .ok (.aload_n 0, 1) := by decide +kernel
theorem dX4_firstFault_41 : decode cX4_firstFault 41 = .ok (.getfield 9, 3) := by decide +kernel
theorem dX4_firstFault_44 : decode cX4_firstFault 44 = .ok (.iload_n 1, 1) := by decide +kernel
theorem dX4_firstFault_45 : decode cX4_firstFault 45 = .ok (.iconst 1, 1) := by decide +kernel
theorem dX4_firstFault_46 : decode cX4_firstFault 46 = .ok (.iadd, 1) := by decide +kernel
theorem dX4_firstFault_47 : decode cX4_firstFault 47 = .ok (.iaload, 1) := by decide +kernel
theorem dX4_firstFault_48 : decode cX4_firstFault 48 = .ok (.bipush 48, 2) := by decide +kernel
theorem dX4_firstFault_50 : decode cX4_firstFault 50 = .ok (.if_icmp .ne 5, 3) := by decide +kernel
theorem dX4_firstFault_53 : decode cX4_firstFault 53 = .ok (.iconst 1, 1) := by decide +kernel
theorem dX4_firstFault_54 : decode cX4_firstFault 54 = .ok (.ireturn, 1) := by decide +kernel
theorem dX4_firstFault_55 : decode cX4_firstFault 55 = .ok (.iinc 3 1, 3) := by decide +kernel
theorem dX4_firstFault_58 : decode cX4_firstFault 58 = .ok (.goto (-56), 3) := by decide +kernel
theorem dX4_firstFault_61 : decode cX4_firstFault 61 = .ok (.iload_n 2, 1) := by decide +kernel
theorem dX4_firstFault_62 : decode cX4_firstFault 62 = .ok (.iconst 4, 1) := by decide +kernel
theorem dX4_firstFault_63 : decode cX4_firstFault 63 = .ok (.if_icmp .le 15, 3) := by decide +kernel
theorem dX4_firstFault_66 : decode cX4_firstFault 66 = .ok (.iload_n 2, 1) := by decide +kernel
theorem dX4_firstFault_67 : decode cX4_firstFault 67 = .ok (.iconst 4, 1) := by decide +kernel
theorem dX4_firstFault_68 : decode cX4_firstFault 68 = .ok (.isub, 1) := by decide +kernel
theorem dX4_firstFault_69 : decode cX4_firstFault 69 = .ok (.iconst 5, 1) := by decide +kernel
theorem dX4_firstFault_70 : decode cX4_firstFault 70 = .ok (.irem, 1) := by decide +kernel
theorem dX4_firstFault_71 : decode cX4_firstFault 71 = .ok (.ifCond .ne 7, 3) := by decide +kernel
theorem dX4_firstFault_74 : decode cX4_firstFault 74 = .ok (.iconst 1, 1) := by decide +kernel
theorem dX4_firstFault_75 : decode cX4_firstFault 75 = .ok (.goto 4, 3) := by decide +kernel
theorem dX4_firstFault_78 : decode cX4_firstFault 78 = .ok (.iconst 0, 1) := by decide +kernel
theorem dX4_firstFault_79 : decode cX4_firstFault 79 = .ok (.istore_n 3, 1) := by decide +kernel
theorem dX4_firstFault_80 : decode cX4_firstFault 80 = .ok (.iload_n 3, 1) := by decide +kernel
theorem dX4_firstFault_81 : decode cX4_firstFault 81 = .ok (.ifCond .eq 7, 3) := by decide +kernel
theorem dX4_firstFault_84 : decode cX4_firstFault 84 = .ok (.iconst (-1), 1) := by decide +kernel
theorem dX4_firstFault_85 : decode cX4_firstFault 85 = .ok (.goto 4, 3) := by decide +kernel
theorem dX4_firstFault_88 : decode cX4_firstFault 88 = .ok (.iload_n 2, 1) := by decide +kernel
theorem dX4_firstFault_89 : decode cX4_firstFault 89 = .ok (.ireturn, 1) := by decide +kernel
theorem dX4_goesOnWith_0 : decode cX4_goesOnWith 0 = .ok (.iload_n 0, 1) := by decide +kernel
theorem dX4_goesOnWith_1 : decode cX4_goesOnWith 1 = .ok (.iconst 4, 1) := by decide +kernel
theorem dX4_goesOnWith_2 : decode cX4_goesOnWith 2 = .ok (.if_icmp .lt 27, 3) := by decide +kernel
theorem dX4_goesOnWith_5 : decode cX4_goesOnWith 5 = .ok (.iload_n 0, 1) := by decide +kernel
theorem dX4_goesOnWith_6 : decode cX4_goesOnWith 6 = .ok (.bipush 34, 2) := by decide +kernel
theorem dX4_goesOnWith_8 : decode cX4_goesOnWith 8 = .ok (.if_icmp .ge 19, 3) := by decide +kernel
theorem dX4_goesOnWith_11 : decode cX4_goesOnWith 11 = .ok (.iload_n 0, 1) := by decide +kernel
theorem dX4_goesOnWith_12 : decode cX4_goesOnWith 12 = .ok (.iconst 4, 1) := by decide +kernel
theorem dX4_goesOnWith_13 : decode cX4_goesOnWith 13 = .ok (.isub, 1) := by decide +kernel
theorem dX4_goesOnWith_14 : decode cX4_goesOnWith 14 = .ok (.iconst 5, 1) := by decide +kernel
theorem dX4_goesOnWith_15 : decode cX4_goesOnWith 15 = .ok (.irem, 1) := by decide +kernel
theorem dX4_goesOnWith_16 : decode cX4_goesOnWith 16 = .ok (.iload_n 1, 1) := by decide +kernel
theorem dX4_goesOnWith_17 : decode cX4_goesOnWith 17 = .ok (.invokestatic 21, 3) := by decide +kernel
theorem dX4_goesOnWith_20 : decode cX4_goesOnWith 20 = .ok (.ifCond .eq 7, 3) := by decide +kernel
theorem dX4_goesOnWith_23 : decode cX4_goesOnWith 23 = .ok (.iconst 1, 1) := by decide +kernel
theorem dX4_goesOnWith_24 : decode cX4_goesOnWith 24 = .ok (.goto 4, 3) := by decide +kernel
theorem dX4_goesOnWith_27 : decode cX4_goesOnWith 27 = .ok (.iconst 0, 1) := by decide +kernel
theorem dX4_goesOnWith_28 : decode cX4_goesOnWith 28 = .ok (.ireturn, 1) := by decide +kernel
theorem dX4_goesOnWith_29 : decode cX4_goesOnWith 29 = .ok (.iload_n 0, 1) := by decide +kernel
theorem dX4_goesOnWith_30 : decode cX4_goesOnWith 30 = .ok (.lookupswitch 57 #[(0, 26), (3, 38)], 26) := by decide +kernel
theorem dX4_goesOnWith_56 : decode cX4_goesOnWith 56 = .ok (.iload_n 1, 1) := by decide +kernel
theorem dX4_goesOnWith_57 : decode cX4_goesOnWith 57 = .ok (.bipush 121, 2) := by decide +kernel
theorem dX4_goesOnWith_59 : decode cX4_goesOnWith 59 = .ok (.if_icmp .ne 7, 3) := by decide +kernel
theorem dX4_goesOnWith_62 : decode cX4_goesOnWith 62 = .ok (.iconst 1, 1) := by decide +kernel
theorem dX4_goesOnWith_63 : decode cX4_goesOnWith 63 = .ok (.goto 4, 3) := by decide +kernel
theorem dX4_goesOnWith_66 : decode cX4_goesOnWith 66 = .ok (.iconst 0, 1) := by decide +kernel
theorem dX4_goesOnWith_67 : decode cX4_goesOnWith 67 = .ok (.ireturn, 1) := by decide +kernel
theorem dX4_goesOnWith_68 : decode cX4_goesOnWith 68 = .ok (.iload_n 1, 1) := by decide +kernel
theorem dX4_goesOnWith_69 : decode cX4_goesOnWith 69 = .ok (.invokestatic 24, 3) := by decide +kernel
theorem dX4_goesOnWith_72 : decode cX4_goesOnWith 72 = .ok (.ifCond .eq 13, 3) := by decide +kernel
theorem dX4_goesOnWith_75 : decode cX4_goesOnWith 75 = .ok (.iload_n 1, 1) := by decide +kernel
theorem dX4_goesOnWith_76 : decode cX4_goesOnWith 76 = .ok (.bipush 48, 2) := by decide +kernel
theorem dX4_goesOnWith_78 : decode cX4_goesOnWith 78 = .ok (.if_icmp .eq 7, 3) := by decide +kernel
theorem dX4_goesOnWith_81 : decode cX4_goesOnWith 81 = .ok (.iconst 1, 1) := by decide +kernel
theorem dX4_goesOnWith_82 : decode cX4_goesOnWith 82 = .ok (.goto 4, 3) := by decide +kernel
theorem dX4_goesOnWith_85 : decode cX4_goesOnWith 85 = .ok (.iconst 0, 1) := by decide +kernel
theorem dX4_goesOnWith_86 : decode cX4_goesOnWith 86 = .ok (.ireturn, 1) := by decide +kernel
theorem dX4_goesOnWith_87 : decode cX4_goesOnWith 87 = .ok (.iload_n 1, 1) := by decide +kernel
theorem dX4_goesOnWith_88 : decode cX4_goesOnWith 88 = .ok (.invokestatic 24, 3) := by decide +kernel
theorem dX4_goesOnWith_91 : decode cX4_goesOnWith 91 = .ok (.ireturn, 1) := by decide +kernel
theorem dX4_tapGoesOnWith_0 : decode cX4_tapGoesOnWith 0 = .ok (.iload_n 0, 1) := by decide +kernel
theorem dX4_tapGoesOnWith_1 : decode cX4_tapGoesOnWith 1 = .ok (.tableswitch 68 0 2 #[27, 39, 63], 27) := by decide +kernel
theorem dX4_tapGoesOnWith_28 : decode cX4_tapGoesOnWith 28 = .ok (.iload_n 1, 1) := by decide +kernel
theorem dX4_tapGoesOnWith_29 : decode cX4_tapGoesOnWith 29 = .ok (.bipush 59, 2) := by decide +kernel
theorem dX4_tapGoesOnWith_31 : decode cX4_tapGoesOnWith 31 = .ok (.if_icmp .ne 7, 3) := by decide +kernel
theorem dX4_tapGoesOnWith_34 : decode cX4_tapGoesOnWith 34 = .ok (.iconst 1, 1) := by decide +kernel
theorem dX4_tapGoesOnWith_35 : decode cX4_tapGoesOnWith 35 = .ok (.goto 4, 3) := by decide +kernel
theorem dX4_tapGoesOnWith_38 : decode cX4_tapGoesOnWith 38 = .ok (.iconst 0, 1) := by decide +kernel
theorem dX4_tapGoesOnWith_39 : decode cX4_tapGoesOnWith 39 = .ok (.ireturn, 1) := by decide +kernel
theorem dX4_tapGoesOnWith_40 : decode cX4_tapGoesOnWith 40 = .ok (.iload_n 1, 1) := by decide +kernel
theorem dX4_tapGoesOnWith_41 : decode cX4_tapGoesOnWith 41 = .ok (.bipush 102, 2) := by decide +kernel
theorem dX4_tapGoesOnWith_43 : decode cX4_tapGoesOnWith 43 = .ok (.if_icmp .eq 15, 3) := by decide +kernel
theorem dX4_tapGoesOnWith_46 : decode cX4_tapGoesOnWith 46 = .ok (.iload_n 1, 1) := by decide +kernel
theorem dX4_tapGoesOnWith_47 : decode cX4_tapGoesOnWith 47 = .ok (.bipush 103, 2) := by decide +kernel
theorem dX4_tapGoesOnWith_49 : decode cX4_tapGoesOnWith 49 = .ok (.if_icmp .eq 9, 3) := by decide +kernel
theorem dX4_tapGoesOnWith_52 : decode cX4_tapGoesOnWith 52 = .ok (.iload_n 1, 1) := by decide +kernel
theorem dX4_tapGoesOnWith_53 : decode cX4_tapGoesOnWith 53 = .ok (.bipush 111, 2) := by decide +kernel
theorem dX4_tapGoesOnWith_55 : decode cX4_tapGoesOnWith 55 = .ok (.if_icmp .ne 7, 3) := by decide +kernel
theorem dX4_tapGoesOnWith_58 : decode cX4_tapGoesOnWith 58 = .ok (.iconst 1, 1) := by decide +kernel
theorem dX4_tapGoesOnWith_59 : decode cX4_tapGoesOnWith 59 = .ok (.goto 4, 3) := by decide +kernel
theorem dX4_tapGoesOnWith_62 : decode cX4_tapGoesOnWith 62 = .ok (.iconst 0, 1) := by decide +kernel
theorem dX4_tapGoesOnWith_63 : decode cX4_tapGoesOnWith 63 = .ok (.ireturn, 1) := by decide +kernel
theorem dX4_tapGoesOnWith_64 : decode cX4_tapGoesOnWith 64 = .ok (.iload_n 1, 1) := by decide +kernel
theorem dX4_tapGoesOnWith_65 : decode cX4_tapGoesOnWith 65 = .ok (.invokestatic 24, 3) := by decide +kernel
theorem dX4_tapGoesOnWith_68 : decode cX4_tapGoesOnWith 68 = .ok (.ireturn, 1) := by decide +kernel
theorem dX4_tapGoesOnWith_69 : decode cX4_tapGoesOnWith 69 = .ok (.iload_n 1, 1) := by decide +kernel
theorem dX4_tapGoesOnWith_70 : decode cX4_tapGoesOnWith 70 = .ok (.invokestatic 24, 3) := by decide +kernel
theorem dX4_tapGoesOnWith_73 : decode cX4_tapGoesOnWith 73 = .ok (.ifCond .eq 13, 3) := by decide +kernel
theorem dX4_tapGoesOnWith_76 : decode cX4_tapGoesOnWith 76 = .ok (.iload_n 1, 1) := by decide +kernel
theorem dX4_tapGoesOnWith_77 : decode cX4_tapGoesOnWith 77 = .ok (.bipush 48, 2) := by decide +kernel
theorem dX4_tapGoesOnWith_79 : decode cX4_tapGoesOnWith 79 = .ok (.if_icmp .eq 7, 3) := by decide +kernel
theorem dX4_tapGoesOnWith_82 : decode cX4_tapGoesOnWith 82 = .ok (.iconst 1, 1) := by decide +kernel
theorem dX4_tapGoesOnWith_83 : decode cX4_tapGoesOnWith 83 = .ok (.goto 4, 3) := by decide +kernel
theorem dX4_tapGoesOnWith_86 : decode cX4_tapGoesOnWith 86 = .ok (.iconst 0, 1) := by decide +kernel
theorem dX4_tapGoesOnWith_87 : decode cX4_tapGoesOnWith 87 = .ok (.ireturn, 1) := by decide +kernel
theorem dX4_isDigit_0 : decode cX4_isDigit 0 = .ok (.iload_n 0, 1) := by decide +kernel
theorem dX4_isDigit_1 : decode cX4_isDigit 1 = .ok (.bipush 48, 2) := by decide +kernel
theorem dX4_isDigit_3 : decode cX4_isDigit 3 = .ok (.if_icmp .lt 13, 3) := by decide +kernel
theorem dX4_isDigit_6 : decode cX4_isDigit 6 = .ok (.iload_n 0, 1) := by decide +kernel
theorem dX4_isDigit_7 : decode cX4_isDigit 7 = .ok (.bipush 57, 2) := by decide +kernel
theorem dX4_isDigit_9 : decode cX4_isDigit 9 = .ok (.if_icmp .gt 7, 3) := by decide +kernel
theorem dX4_isDigit_12 : decode cX4_isDigit 12 = .ok (.iconst 1, 1) := by decide +kernel
theorem dX4_isDigit_13 : decode cX4_isDigit 13 = .ok (.goto 4, 3) := by decide +kernel
theorem dX4_isDigit_16 : decode cX4_isDigit 16 = .ok (.iconst 0, 1) := by decide +kernel
theorem dX4_isDigit_17 : decode cX4_isDigit 17 = .ok (.ireturn, 1) := by decide +kernel
theorem dX4_digitAt_0 : decode cX4_digitAt 0 = .ok (.aload_n 0, 1) := by decide +kernel
theorem dX4_digitAt_1 : decode cX4_digitAt 1 = .ok (.getfield 9, 3) := by decide +kernel
theorem dX4_digitAt_4 : decode cX4_digitAt 4 = .ok (.iload_n 1, 1) := by decide +kernel
theorem dX4_digitAt_5 : decode cX4_digitAt 5 = .ok (.iaload, 1) := by decide +kernel
theorem dX4_digitAt_6 : decode cX4_digitAt 6 = .ok (.bipush 48, 2) := by decide +kernel
theorem dX4_digitAt_8 : decode cX4_digitAt 8 = .ok (.isub, 1) := by decide +kernel
theorem dX4_digitAt_9 : decode cX4_digitAt 9 = .ok (.ireturn, 1) := by decide +kernel
theorem dX4_kindOf_0 : decode cX4_kindOf 0 = .ok (.iload_n 0, 1) := by decide +kernel
theorem dX4_kindOf_1 : decode cX4_kindOf 1 = .ok (.bipush 111, 2) := by decide +kernel
theorem dX4_kindOf_3 : decode cX4_kindOf 3 = .ok (.if_icmp .ne 5, 3) := by decide +kernel
theorem dX4_kindOf_6 : decode cX4_kindOf 6 = .ok (.iconst 2, 1) := by decide +kernel
theorem dX4_kindOf_7 : decode cX4_kindOf 7 = .ok (.ireturn, 1) := by decide +kernel
theorem dX4_kindOf_8 : decode cX4_kindOf 8 = .ok (.iload_n 0, 1) := by decide +kernel
theorem dX4_kindOf_9 : decode cX4_kindOf 9 = .ok (.bipush 103, 2) := by decide +kernel
theorem dX4_kindOf_11 : decode cX4_kindOf 11 = .ok (.if_icmp .ne 7, 3) := by decide +kernel
theorem dX4_kindOf_14 : decode cX4_kindOf 14 = .ok (.iconst 1, 1) := by decide +kernel
theorem dX4_kindOf_15 : decode cX4_kindOf 15 = .ok (.goto 4, 3) := by decide +kernel
theorem dX4_kindOf_18 : decode cX4_kindOf 18 = .ok (.iconst 0, 1) := by decide +kernel
theorem dX4_kindOf_19 : decode cX4_kindOf 19 = .ok (.ireturn, 1) := by decide +kernel
theorem dX5_init_0 : decode cX5_init 0 = .ok (.aload_n 0, 1) := by decide +kernel
theorem dX5_init_1 : decode cX5_init 1 = .ok (.invokespecial 3, 3) := by decide +kernel
theorem dX5_init_4 : decode cX5_init 4 = .ok (.aload_n 0, 1) := by decide +kernel
theorem dX5_init_5 : decode cX5_init 5 = .ok (.bipush 6, 2) := by decide +kernel
theorem dX5_init_7 : decode cX5_init 7 = .ok (.anewarray 9, 3) := by decide +kernel
theorem dX5_init_10 : decode cX5_init 10 = .ok (.putfield 11, 3) := by decide +kernel
theorem dX5_init_13 : decode cX5_init 13 = .ok (.aload_n 0, 1) := by decide +kernel
theorem dX5_init_14 : decode cX5_init 14 = .ok (.bipush 10, 2) := by decide +kernel
theorem dX5_init_16 : decode cX5_init 16 = .ok (.newarray .int, 2) := by decide +kernel
theorem dX5_init_18 : decode cX5_init 18 = .ok (.putfield 17, 3) := by decide +kernel
theorem dX5_init_21 : decode cX5_init 21 = .ok (.iconst 0, 1) := by decide +kernel
theorem dX5_init_22 : decode cX5_init 22 = .ok (.istore_n 1, 1) := by decide +kernel
theorem dX5_init_23 : decode cX5_init 23 = .ok (.iload_n 1, 1) := by decide +kernel
theorem dX5_init_24 : decode cX5_init 24 = .ok (.bipush 6, 2) := by decide +kernel
theorem dX5_init_26 : decode cX5_init 26 = .ok (.if_icmp .ge 22, 3) := by decide +kernel
theorem dX5_init_29 : decode cX5_init 29 = .ok (.aload_n 0, 1) := by decide +kernel
theorem dX5_init_30 : decode cX5_init 30 = .ok (.getfield 11, 3) := by decide +kernel
theorem dX5_init_33 : decode cX5_init 33 = .ok (.iload_n 1, 1) := by decide +kernel
theorem dX5_init_34 : decode cX5_init 34 = .ok (.new 9, 3) := by decide +kernel
theorem dX5_init_37 : decode cX5_init 37 = .ok (.dup, 1) := by decide +kernel
theorem dX5_init_38 : decode cX5_init 38 = .ok (.invokespecial 21, 3) := by decide +kernel
theorem dX5_init_41 : decode cX5_init 41 = .ok (.aastore, 1) := by decide +kernel
theorem dX5_init_42 : decode cX5_init 42 = .ok (.iinc 1 1, 3) := by decide +kernel
theorem dX5_init_45 : decode cX5_init 45 = .ok (.goto (-22), 3) := by decide +kernel
theorem dX5_init_48 : decode cX5_init 48 = .ok (.return_, 1) := by decide +kernel
theorem dX5_readFrom_0 : decode cX5_readFrom 0 = .ok (.aload_n 0, 1) := by decide +kernel
theorem dX5_readFrom_1 : decode cX5_readFrom 1 = .ok (.bipush 10, 2) := by decide +kernel
theorem dX5_readFrom_3 : decode cX5_readFrom 3 = .ok (.aload_n 1, 1) := by decide +kernel
theorem dX5_readFrom_4 : decode cX5_readFrom 4 = .ok (.iload_n 2, 1) := by decide +kernel
theorem dX5_readFrom_5 : decode cX5_readFrom 5 = .ok (.iconst 1, 1) := by decide +kernel
theorem dX5_readFrom_6 : decode cX5_readFrom 6 = .ok (.iadd, 1) := by decide +kernel
theorem dX5_readFrom_7 : decode cX5_readFrom 7 = .ok (.invokestatic 22, 3) := by decide +kernel
theorem dX5_readFrom_10 : decode cX5_readFrom 10 = .ok (.imul, 1) := by decide +kernel
theorem dX5_readFrom_11 : decode cX5_readFrom 11 = .ok (.aload_n 1, 1) := by decide +kernel
theorem dX5_readFrom_12 : decode cX5_readFrom 12 = .ok (.iload_n 2, 1) := by decide +kernel
theorem dX5_readFrom_13 : decode cX5_readFrom 13 = .ok (.iconst 2, 1) := by decide +kernel
theorem dX5_readFrom_14 : decode cX5_readFrom 14 = .ok (.iadd, 1) := by decide +kernel
theorem dX5_readFrom_15 : decode cX5_readFrom 15 = .ok (.invokestatic 22, 3) := by decide +kernel
theorem dX5_readFrom_18 : decode cX5_readFrom 18 = .ok (.iadd, 1) := by decide +kernel
theorem dX5_readFrom_19 : decode cX5_readFrom 19 = .ok (.putfield 28, 3) := by decide +kernel
theorem dX5_readFrom_22 : decode cX5_readFrom 22 = .ok (.aload_n 0, 1) := by decide +kernel
theorem dX5_readFrom_23 : decode cX5_readFrom 23 = .ok (.aload_n 1, 1) := by decide +kernel
theorem dX5_readFrom_24 : decode cX5_readFrom 24 = .ok (.iload_n 2, 1) := by decide +kernel
theorem dX5_readFrom_25 : decode cX5_readFrom 25 = .ok (.iconst 3, 1) := by decide +kernel
theorem dX5_readFrom_26 : decode cX5_readFrom 26 = .ok (.iadd, 1) := by decide +kernel
theorem dX5_readFrom_27 : decode cX5_readFrom 27 = .ok (.invokestatic 22, 3) := by decide +kernel
theorem dX5_readFrom_30 : decode cX5_readFrom 30 = .ok (.putfield 32, 3) := by decide +kernel
theorem dX5_readFrom_33 : decode cX5_readFrom 33 = .ok (.aload_n 0, 1) := by decide +kernel
theorem dX5_readFrom_34 : decode cX5_readFrom 34 = .ok (.iload_n 3, 1) := by decide +kernel
theorem dX5_readFrom_35 : decode cX5_readFrom 35 = .ok (.iconst 4, 1) := by decide +kernel
theorem dX5_readFrom_36 : decode cX5_readFrom 36 = .ok (.isub, 1) := by decide +kernel
theorem dX5_readFrom_37 : decode cX5_readFrom 37 = .ok (.iconst 5, 1) := by decide +kernel
theorem dX5_readFrom_38 : decode cX5_readFrom 38 = .ok (.idiv, 1) := by decide +kernel
theorem dX5_readFrom_39 : decode cX5_readFrom 39 = .ok (.bipush 6, 2) := by decide +kernel
theorem dX5_readFrom_41 : decode cX5_readFrom 41 = .ok (.invokestatic 35, 3) := by decide +kernel
theorem dX5_readFrom_44 : decode cX5_readFrom 44 = .ok (.putfield 41, 3) := by decide +kernel
theorem dX5_readFrom_47 : decode cX5_readFrom 47 = .ok (.iconst 0, 1) := by decide +kernel
theorem dX5_readFrom_48 : decode cX5_readFrom 48 = .ok (.istore 4, 2) := by decide +kernel
theorem dX5_readFrom_50 : decode cX5_readFrom 50 = .ok (.iload 4, 2) := by decide +kernel
theorem dX5_readFrom_52 : decode cX5_readFrom 52 = .ok (.aload_n 0, 1) := by decide +kernel
theorem dX5_readFrom_53 : decode cX5_readFrom 53 = .ok (.getfield 41, 3) := by decide +kernel
theorem dX5_readFrom_56 : decode cX5_readFrom 56 = .ok (.if_icmp .ge 95, 3) := by decide +kernel
theorem dX5_readFrom_59 : decode cX5_readFrom 59 = .ok (.iload_n 2, 1) := by decide +kernel
theorem dX5_readFrom_60 : decode cX5_readFrom 60 = .ok (.iconst 4, 1) := by decide +kernel
theorem dX5_readFrom_61 : decode cX5_readFrom 61 = .ok (.iadd, 1) := by decide +kernel
theorem dX5_readFrom_62 : decode cX5_readFrom 62 = .ok (.iload 4, 2) := by decide +kernel
theorem dX5_readFrom_64 : decode cX5_readFrom 64 = .ok (.iconst 5, 1) := by decide +kernel
theorem dX5_readFrom_65 : decode cX5_readFrom 65 = .ok (.imul, 1) := by decide +kernel
theorem dX5_readFrom_66 : decode cX5_readFrom 66 = .ok (.iadd, 1) := by decide +kernel
theorem dX5_readFrom_67 : decode cX5_readFrom 67 = .ok (.istore 5, 2) := by decide +kernel
theorem dX5_readFrom_69 : decode cX5_readFrom 69 = .ok (.aload_n 0, 1) := by decide +kernel
theorem dX5_readFrom_70 : decode cX5_readFrom 70 = .ok (.getfield 11, 3) := by decide +kernel
theorem dX5_readFrom_73 : decode cX5_readFrom 73 = .ok (.iload 4, 2) := by decide +kernel
theorem dX5_readFrom_75 : decode cX5_readFrom 75 = .ok (.aaload, 1) := by decide +kernel
theorem dX5_readFrom_76 : decode cX5_readFrom 76 = .ok (.aload_n 1, 1) := by decide +kernel
theorem dX5_readFrom_77 : decode cX5_readFrom 77 = .ok (.getfield 44, 3) := by decide +kernel
theorem dX5_readFrom_80 : decode cX5_readFrom 80 = .ok (.iload 5, 2) := by decide +kernel
theorem dX5_readFrom_82 : decode cX5_readFrom 82 = .ok (.iconst 1, 1) := by decide +kernel
theorem dX5_readFrom_83 : decode cX5_readFrom 83 = .ok (.iadd, 1) := by decide +kernel
theorem dX5_readFrom_84 : decode cX5_readFrom 84 = .ok (.iaload, 1) := by decide +kernel
theorem dX5_readFrom_85 : decode cX5_readFrom 85 = .ok (.invokestatic 49, 3) := by decide +kernel
theorem dX5_readFrom_88 : decode cX5_readFrom 88 = .ok (.putfield 53, 3) := by decide +kernel
theorem dX5_readFrom_91 : decode cX5_readFrom 91 = .ok (.aload_n 0, 1) := by decide +kernel
theorem dX5_readFrom_92 : decode cX5_readFrom 92 = .ok (.getfield 11, 3) := by decide +kernel
theorem dX5_readFrom_95 : decode cX5_readFrom 95 = .ok (.iload 4, 2) := by decide +kernel
theorem dX5_readFrom_97 : decode cX5_readFrom 97 = .ok (.aaload, 1) := by decide +kernel
theorem dX5_readFrom_98 : decode cX5_readFrom 98 = .ok (.aload_n 1, 1) := by decide +kernel
theorem dX5_readFrom_99 : decode cX5_readFrom 99 = .ok (.iload 5, 2) := by decide +kernel
theorem dX5_readFrom_101 : decode cX5_readFrom 101 = .ok (.iconst 2, 1) := by decide +kernel
theorem dX5_readFrom_102 : decode cX5_readFrom 102 = .ok (.iadd, 1) := by decide +kernel
theorem dX5_readFrom_103 : decode cX5_readFrom 103 = .ok (.invokestatic 22, 3) := by decide +kernel
theorem dX5_readFrom_106 : decode cX5_readFrom 106 = .ok (.putfield 56, 3) := by decide +kernel
theorem dX5_readFrom_109 : decode cX5_readFrom 109 = .ok (.aload_n 0, 1) := by decide +kernel
theorem dX5_readFrom_110 : decode cX5_readFrom 110 = .ok (.getfield 11, 3) := by decide +kernel
theorem dX5_readFrom_113 : decode cX5_readFrom 113 = .ok (.iload 4, 2) := by decide +kernel
theorem dX5_readFrom_115 : decode cX5_readFrom 115 = .ok (.aaload, 1) := by decide +kernel
theorem dX5_readFrom_116 : decode cX5_readFrom 116 = .ok (.aload_n 1, 1) := by decide +kernel
theorem dX5_readFrom_117 : decode cX5_readFrom 117 = .ok (.iload 5, 2) := by decide +kernel
theorem dX5_readFrom_119 : decode cX5_readFrom 119 = .ok (.iconst 3, 1) := by decide +kernel
theorem dX5_readFrom_120 : decode cX5_readFrom 120 = .ok (.iadd, 1) := by decide +kernel
theorem dX5_readFrom_121 : decode cX5_readFrom 121 = .ok (.invokestatic 22, 3) := by decide +kernel
theorem dX5_readFrom_124 : decode cX5_readFrom 124 = .ok (.putfield 59, 3) := by decide +kernel
theorem dX5_readFrom_127 : decode cX5_readFrom 127 = .ok (.aload_n 0, 1) := by decide +kernel
theorem dX5_readFrom_128 : decode cX5_readFrom 128 = .ok (.getfield 11, 3) := by decide +kernel
theorem dX5_readFrom_131 : decode cX5_readFrom 131 = .ok (.iload 4, 2) := by decide +kernel
theorem dX5_readFrom_133 : decode cX5_readFrom 133 = .ok (.aaload, 1) := by decide +kernel
theorem dX5_readFrom_134 : decode cX5_readFrom 134 = .ok (.aload_n 1, 1) := by decide +kernel
theorem dX5_readFrom_135 : decode cX5_readFrom 135 = .ok (.iload 5, 2) := by decide +kernel
theorem dX5_readFrom_137 : decode cX5_readFrom 137 = .ok (.iconst 4, 1) := by decide +kernel
theorem dX5_readFrom_138 : decode cX5_readFrom 138 = .ok (.iadd, 1) := by decide +kernel
theorem dX5_readFrom_139 : decode cX5_readFrom 139 = .ok (.invokestatic 22, 3) := by decide +kernel
theorem dX5_readFrom_142 : decode cX5_readFrom 142 = .ok (.putfield 62, 3) := by decide +kernel
theorem dX5_readFrom_145 : decode cX5_readFrom 145 = .ok (.iinc 4 1, 3) := by decide +kernel
theorem dX5_readFrom_148 : decode cX5_readFrom 148 = .ok (.goto (-98), 3) := by decide +kernel
theorem dX5_readFrom_151 : decode cX5_readFrom 151 = .ok (.aload_n 0, 1) := by decide +kernel
theorem dX5_readFrom_152 : decode cX5_readFrom 152 = .ok (.iconst 0, 1) := by decide +kernel
theorem dX5_readFrom_153 : decode cX5_readFrom 153 = .ok (.putfield 65, 3) := by decide +kernel
theorem dX5_readFrom_156 : decode cX5_readFrom 156 = .ok (.aload_n 0, 1) := by decide +kernel
theorem dX5_readFrom_157 : decode cX5_readFrom 157 = .ok (.iconst 0, 1) := by decide +kernel
theorem dX5_readFrom_158 : decode cX5_readFrom 158 = .ok (.putfield 68, 3) := by decide +kernel
theorem dX5_readFrom_161 : decode cX5_readFrom 161 = .ok (.aload_n 0, 1) := by decide +kernel
theorem dX5_readFrom_162 : decode cX5_readFrom 162 = .ok (.iconst 0, 1) := by decide +kernel
theorem dX5_readFrom_163 : decode cX5_readFrom 163 = .ok (.putfield 71, 3) := by decide +kernel
theorem dX5_readFrom_166 : decode cX5_readFrom 166 = .ok (.aload_n 0, 1) := by decide +kernel
theorem dX5_readFrom_167 : decode cX5_readFrom 167 = .ok (.iconst 0, 1) := by decide +kernel
theorem dX5_readFrom_168 : decode cX5_readFrom 168 = .ok (.putfield 74, 3) := by decide +kernel
theorem dX5_readFrom_171 : decode cX5_readFrom 171 = .ok (.iconst 0, 1) := by decide +kernel
theorem dX5_readFrom_172 : decode cX5_readFrom 172 = .ok (.istore 4, 2) := by decide +kernel
theorem dX5_readFrom_174 : decode cX5_readFrom 174 = .ok (.iload 4, 2) := by decide +kernel
theorem dX5_readFrom_176 : decode cX5_readFrom 176 = .ok (.bipush 10, 2) := by decide +kernel
theorem dX5_readFrom_178 : decode cX5_readFrom 178 = .ok (.if_icmp .ge 17, 3) := by decide +kernel
theorem dX5_readFrom_181 : decode cX5_readFrom 181 = .ok (.aload_n 0, 1) := by decide +kernel
theorem dX5_readFrom_182 : decode cX5_readFrom 182 = .ok (.getfield 17, 3) := by decide +kernel
theorem dX5_readFrom_185 : decode cX5_readFrom 185 = .ok (.iload 4, 2) := by decide +kernel
theorem dX5_readFrom_187 : decode cX5_readFrom 187 = .ok (.iconst 0, 1) := by decide +kernel
theorem dX5_readFrom_188 : decode cX5_readFrom 188 = .ok (.iastore, 1) := by decide +kernel
theorem dX5_readFrom_189 : decode cX5_readFrom 189 = .ok (.iinc 4 1, 3) := by decide +kernel
theorem dX5_readFrom_192 : decode cX5_readFrom 192 = .ok (.goto (-18), 3) := by decide +kernel
theorem dX5_readFrom_195 : decode cX5_readFrom 195 = .ok (.return_, 1) := by decide +kernel
theorem dX5_givesAt_0 : decode cX5_givesAt 0 = .ok (.iload_n 2, 1) := by decide +kernel
theorem dX5_givesAt_1 : decode cX5_givesAt 1 = .ok (.aload_n 0, 1) := by decide +kernel
theorem dX5_givesAt_2 : decode cX5_givesAt 2 = .ok (.getfield 11, 3) := by decide +kernel
theorem dX5_givesAt_5 : decode cX5_givesAt 5 = .ok (.iload_n 1, 1) := by decide +kernel
theorem dX5_givesAt_6 : decode cX5_givesAt 6 = .ok (.aaload, 1) := by decide +kernel
theorem dX5_givesAt_7 : decode cX5_givesAt 7 = .ok (.getfield 56, 3) := by decide +kernel
theorem dX5_givesAt_10 : decode cX5_givesAt 10 = .ok (.aload_n 0, 1) := by decide +kernel
theorem dX5_givesAt_11 : decode cX5_givesAt 11 = .ok (.getfield 32, 3) := by decide +kernel
theorem dX5_givesAt_14 : decode cX5_givesAt 14 = .ok (.imul, 1) := by decide +kernel
theorem dX5_givesAt_15 : decode cX5_givesAt 15 = .ok (.isub, 1) := by decide +kernel
theorem dX5_givesAt_16 : decode cX5_givesAt 16 = .ok (.istore_n 3, 1) := by decide +kernel
theorem dX5_givesAt_17 : decode cX5_givesAt 17 = .ok (.iload_n 3, 1) := by decide +kernel
theorem dX5_givesAt_18 : decode cX5_givesAt 18 = .ok (.ifCond .le 7, 3) := by decide +kernel
theorem dX5_givesAt_21 : decode cX5_givesAt 21 = .ok (.iload_n 3, 1) := by decide +kernel
theorem dX5_givesAt_22 : decode cX5_givesAt 22 = .ok (.goto 4, 3) := by decide +kernel
theorem dX5_givesAt_25 : decode cX5_givesAt 25 = .ok (.iconst 0, 1) := by decide +kernel
theorem dX5_givesAt_26 : decode cX5_givesAt 26 = .ok (.ireturn, 1) := by decide +kernel
theorem dX5_leaksOut_0 : decode cX5_leaksOut 0 = .ok (.aload_n 0, 1) := by decide +kernel
theorem dX5_leaksOut_1 : decode cX5_leaksOut 1 = .ok (.getfield 74, 3) := by decide +kernel
theorem dX5_leaksOut_4 : decode cX5_leaksOut 4 = .ok (.iconst 0, 1) := by decide +kernel
theorem dX5_leaksOut_5 : decode cX5_leaksOut 5 = .ok (.iload_n 1, 1) := by decide +kernel
theorem dX5_leaksOut_6 : decode cX5_leaksOut 6 = .ok (.aload_n 0, 1) := by decide +kernel
theorem dX5_leaksOut_7 : decode cX5_leaksOut 7 = .ok (.getfield 71, 3) := by decide +kernel
theorem dX5_leaksOut_10 : decode cX5_leaksOut 10 = .ok (.aload_n 0, 1) := by decide +kernel
theorem dX5_leaksOut_11 : decode cX5_leaksOut 11 = .ok (.getfield 32, 3) := by decide +kernel
theorem dX5_leaksOut_14 : decode cX5_leaksOut 14 = .ok (.imul, 1) := by decide +kernel
theorem dX5_leaksOut_15 : decode cX5_leaksOut 15 = .ok (.isub, 1) := by decide +kernel
theorem dX5_leaksOut_16 : decode cX5_leaksOut 16 = .ok (.invokestatic 77, 3) := by decide +kernel
theorem dX5_leaksOut_19 : decode cX5_leaksOut 19 = .ok (.invokestatic 35, 3) := by decide +kernel
theorem dX5_leaksOut_22 : decode cX5_leaksOut 22 = .ok (.ireturn, 1) := by decide +kernel
theorem dX5_beneathAllTaps_0 : decode cX5_beneathAllTaps 0 = .ok (.iconst 0, 1) := by decide +kernel
theorem dX5_beneathAllTaps_1 : decode cX5_beneathAllTaps 1 = .ok (.istore_n 2, 1) := by decide +kernel
theorem dX5_beneathAllTaps_2 : decode cX5_beneathAllTaps 2 = .ok (.iconst 0, 1) := by decide +kernel
theorem dX5_beneathAllTaps_3 : decode cX5_beneathAllTaps 3 = .ok (.istore_n 3, 1) := by decide +kernel
theorem dX5_beneathAllTaps_4 : decode cX5_beneathAllTaps 4 = .ok (.iload_n 3, 1) := by decide +kernel
theorem dX5_beneathAllTaps_5 : decode cX5_beneathAllTaps 5 = .ok (.aload_n 0, 1) := by decide +kernel
theorem dX5_beneathAllTaps_6 : decode cX5_beneathAllTaps 6 = .ok (.getfield 41, 3) := by decide +kernel
theorem dX5_beneathAllTaps_9 : decode cX5_beneathAllTaps 9 = .ok (.if_icmp .ge 20, 3) := by decide +kernel
theorem dX5_beneathAllTaps_12 : decode cX5_beneathAllTaps 12 = .ok (.iload_n 2, 1) := by decide +kernel
theorem dX5_beneathAllTaps_13 : decode cX5_beneathAllTaps 13 = .ok (.aload_n 0, 1) := by decide +kernel
theorem dX5_beneathAllTaps_14 : decode cX5_beneathAllTaps 14 = .ok (.iload_n 3, 1) := by decide +kernel
theorem dX5_beneathAllTaps_15 : decode cX5_beneathAllTaps 15 = .ok (.iload_n 1, 1) := by decide +kernel
theorem dX5_beneathAllTaps_16 : decode cX5_beneathAllTaps 16 = .ok (.invokevirtual 80, 3) := by decide +kernel
theorem dX5_beneathAllTaps_19 : decode cX5_beneathAllTaps 19 = .ok (.invokestatic 77, 3) := by decide +kernel
theorem dX5_beneathAllTaps_22 : decode cX5_beneathAllTaps 22 = .ok (.istore_n 2, 1) := by decide +kernel
theorem dX5_beneathAllTaps_23 : decode cX5_beneathAllTaps 23 = .ok (.iinc 3 1, 3) := by decide +kernel
theorem dX5_beneathAllTaps_26 : decode cX5_beneathAllTaps 26 = .ok (.goto (-22), 3) := by decide +kernel
theorem dX5_beneathAllTaps_29 : decode cX5_beneathAllTaps 29 = .ok (.iload_n 1, 1) := by decide +kernel
theorem dX5_beneathAllTaps_30 : decode cX5_beneathAllTaps 30 = .ok (.iload_n 2, 1) := by decide +kernel
theorem dX5_beneathAllTaps_31 : decode cX5_beneathAllTaps 31 = .ok (.isub, 1) := by decide +kernel
theorem dX5_beneathAllTaps_32 : decode cX5_beneathAllTaps 32 = .ok (.ireturn, 1) := by decide +kernel
theorem dX6_init_0 : decode cX6_init 0 = .ok (.aload_n 0, 1) := by decide +kernel
theorem dX6_init_1 : decode cX6_init 1 = .ok (.invokespecial 3, 3) := by decide +kernel
theorem dX6_init_4 : decode cX6_init 4 = .ok (.aload_n 0, 1) := by decide +kernel
theorem dX6_init_5 : decode cX6_init 5 = .ok (.new 9, 3) := by decide +kernel
theorem dX6_init_8 : decode cX6_init 8 = .ok (.dup, 1) := by decide +kernel
theorem dX6_init_9 : decode cX6_init 9 = .ok (.invokespecial 11, 3) := by decide +kernel
theorem dX6_init_12 : decode cX6_init 12 = .ok (.putfield 12, 3) := by decide +kernel
theorem dX6_init_15 : decode cX6_init 15 = .ok (.aload_n 0, 1) := by decide +kernel
theorem dX6_init_16 : decode cX6_init 16 = .ok (.new 18, 3) := by decide +kernel
theorem dX6_init_19 : decode cX6_init 19 = .ok (.dup, 1) := by decide +kernel
theorem dX6_init_20 : decode cX6_init 20 = .ok (.aload_n 0, 1) := by decide +kernel
theorem dX6_init_21 : decode cX6_init 21 = .ok (.getfield 12, 3) := by decide +kernel
theorem dX6_init_24 : decode cX6_init 24 = .ok (.invokespecial 20, 3) := by decide +kernel
theorem dX6_init_27 : decode cX6_init 27 = .ok (.putfield 23, 3) := by decide +kernel
theorem dX6_init_30 : decode cX6_init 30 = .ok (.aload_n 0, 1) := by decide +kernel
theorem dX6_init_31 : decode cX6_init 31 = .ok (.new 27, 3) := by decide +kernel
theorem dX6_init_34 : decode cX6_init 34 = .ok (.dup, 1) := by decide +kernel
theorem dX6_init_35 : decode cX6_init 35 = .ok (.invokespecial 29, 3) := by decide +kernel
theorem dX6_init_38 : decode cX6_init 38 = .ok (.putfield 30, 3) := by decide +kernel
theorem dX6_init_41 : decode cX6_init 41 = .ok (.aload_n 0, 1) := by decide +kernel
theorem dX6_init_42 : decode cX6_init 42 = .ok (.iconst 4, 1) := by decide +kernel
theorem dX6_init_43 : decode cX6_init 43 = .ok (.anewarray 34, 3) := by decide +kernel
theorem dX6_init_46 : decode cX6_init 46 = .ok (.putfield 36, 3) := by decide +kernel
theorem dX6_init_49 : decode cX6_init 49 = .ok (.iconst 0, 1) := by decide +kernel
theorem dX6_init_50 : decode cX6_init 50 = .ok (.istore_n 1, 1) := by decide +kernel
theorem dX6_init_51 : decode cX6_init 51 = .ok (.iload_n 1, 1) := by decide +kernel
theorem dX6_init_52 : decode cX6_init 52 = .ok (.iconst 4, 1) := by decide +kernel
theorem dX6_init_53 : decode cX6_init 53 = .ok (.if_icmp .ge 22, 3) := by decide +kernel
theorem dX6_init_56 : decode cX6_init 56 = .ok (.aload_n 0, 1) := by decide +kernel
theorem dX6_init_57 : decode cX6_init 57 = .ok (.getfield 36, 3) := by decide +kernel
theorem dX6_init_60 : decode cX6_init 60 = .ok (.iload_n 1, 1) := by decide +kernel
theorem dX6_init_61 : decode cX6_init 61 = .ok (.new 34, 3) := by decide +kernel
theorem dX6_init_64 : decode cX6_init 64 = .ok (.dup, 1) := by decide +kernel
theorem dX6_init_65 : decode cX6_init 65 = .ok (.invokespecial 40, 3) := by decide +kernel
theorem dX6_init_68 : decode cX6_init 68 = .ok (.aastore, 1) := by decide +kernel
theorem dX6_init_69 : decode cX6_init 69 = .ok (.iinc 1 1, 3) := by decide +kernel
theorem dX6_init_72 : decode cX6_init 72 = .ok (.goto (-21), 3) := by decide +kernel
theorem dX6_init_75 : decode cX6_init 75 = .ok (.return_, 1) := by decide +kernel
theorem dX6_yard_0 : decode cX6_yard 0 = .ok (.aload_n 0, 1) := by decide +kernel
theorem dX6_yard_1 : decode cX6_yard 1 = .ok (.iconst 0, 1) := by decide +kernel
theorem dX6_yard_2 : decode cX6_yard 2 = .ok (.putfield 41, 3) := by decide +kernel
theorem dX6_yard_5 : decode cX6_yard 5 = .ok (.iload_n 1, 1) := by decide +kernel
theorem dX6_yard_6 : decode cX6_yard 6 = .ok (.invokestatic 45, 3) := by decide +kernel
theorem dX6_yard_9 : decode cX6_yard 9 = .ok (.ifCond .eq 5, 3) := by decide +kernel
theorem dX6_yard_12 : decode cX6_yard 12 = .ok (.iconst (-1), 1) := by decide +kernel
theorem dX6_yard_13 : decode cX6_yard 13 = .ok (.ireturn, 1) := by decide +kernel
theorem dX6_yard_14 : decode cX6_yard 14 = .ok (.iload_n 2, 1) := by decide +kernel
theorem dX6_yard_15 : decode cX6_yard 15 = .ok (.invokestatic 49, 3) := by decide +kernel
theorem dX6_yard_18 : decode cX6_yard 18 = .ok (.ifCond .eq 6, 3) := by decide +kernel
theorem dX6_yard_21 : decode cX6_yard 21 = .ok (.bipush (-2), 2) := by decide +kernel
theorem dX6_yard_23 : decode cX6_yard 23 = .ok (.ireturn, 1) := by decide +kernel
theorem dX6_yard_24 : decode cX6_yard 24 = .ok (.aload_n 0, 1) := by decide +kernel
theorem dX6_yard_25 : decode cX6_yard 25 = .ok (.getfield 36, 3) := by decide +kernel
theorem dX6_yard_28 : decode cX6_yard 28 = .ok (.iload_n 1, 1) := by decide +kernel
theorem dX6_yard_29 : decode cX6_yard 29 = .ok (.aaload, 1) := by decide +kernel
theorem dX6_yard_30 : decode cX6_yard 30 = .ok (.astore 5, 2) := by decide +kernel
theorem dX6_yard_32 : decode cX6_yard 32 = .ok (.aload 5, 2) := by decide +kernel
theorem dX6_yard_34 : decode cX6_yard 34 = .ok (.iload_n 2, 1) := by decide +kernel
theorem dX6_yard_35 : decode cX6_yard 35 = .ok (.invokevirtual 52, 3) := by decide +kernel
theorem dX6_yard_38 : decode cX6_yard 38 = .ok (.istore 6, 2) := by decide +kernel
theorem dX6_yard_40 : decode cX6_yard 40 = .ok (.iload 6, 2) := by decide +kernel
theorem dX6_yard_42 : decode cX6_yard 42 = .ok (.ifCond .ne 11, 3) := by decide +kernel
theorem dX6_yard_45 : decode cX6_yard 45 = .ok (.iload 4, 2) := by decide +kernel
theorem dX6_yard_47 : decode cX6_yard 47 = .ok (.ifCond .ge 6, 3) := by decide +kernel
theorem dX6_yard_50 : decode cX6_yard 50 = .ok (.iconst 4, 1) := by decide +kernel
theorem dX6_yard_51 : decode cX6_yard 51 = .ok (.istore 6, 2) := by decide +kernel
theorem dX6_yard_53 : decode cX6_yard 53 = .ok (.iload 6, 2) := by decide +kernel
theorem dX6_yard_55 : decode cX6_yard 55 = .ok (.ifCond .ne 17, 3) := by decide +kernel
theorem dX6_yard_58 : decode cX6_yard 58 = .ok (.aload 5, 2) := by decide +kernel
theorem dX6_yard_60 : decode cX6_yard 60 = .ok (.iload_n 3, 1) := by decide +kernel
theorem dX6_yard_61 : decode cX6_yard 61 = .ok (.iload 4, 2) := by decide +kernel
theorem dX6_yard_63 : decode cX6_yard 63 = .ok (.invokevirtual 56, 3) := by decide +kernel
theorem dX6_yard_66 : decode cX6_yard 66 = .ok (.ifCond .ne 6, 3) := by decide +kernel
theorem dX6_yard_69 : decode cX6_yard 69 = .ok (.iconst 3, 1) := by decide +kernel
theorem dX6_yard_70 : decode cX6_yard 70 = .ok (.istore 6, 2) := by decide +kernel
theorem dX6_yard_72 : decode cX6_yard 72 = .ok (.iload 6, 2) := by decide +kernel
theorem dX6_yard_74 : decode cX6_yard 74 = .ok (.ifCond .eq 10, 3) := by decide +kernel
theorem dX6_yard_77 : decode cX6_yard 77 = .ok (.aload_n 0, 1) := by decide +kernel
theorem dX6_yard_78 : decode cX6_yard 78 = .ok (.iload 6, 2) := by decide +kernel
theorem dX6_yard_80 : decode cX6_yard 80 = .ok (.invokevirtual 60, 3) := by decide +kernel
theorem dX6_yard_83 : decode cX6_yard 83 = .ok (.ireturn, 1) := by decide +kernel
theorem dX6_yard_84 : decode cX6_yard 84 = .ok (.aload 5, 2) := by decide +kernel
theorem dX6_yard_86 : decode cX6_yard 86 = .ok (.iload_n 3, 1) := by decide +kernel
theorem dX6_yard_87 : decode cX6_yard 87 = .ok (.iload 4, 2) := by decide +kernel
theorem dX6_yard_89 : decode cX6_yard 89 = .ok (.invokestatic 63, 3) := by decide +kernel
theorem dX6_yard_92 : decode cX6_yard 92 = .ok (.istore 7, 2) := by decide +kernel
theorem dX6_yard_94 : decode cX6_yard 94 = .ok (.iload 7, 2) := by decide +kernel
theorem dX6_yard_96 : decode cX6_yard 96 = .ok (.ifCond .lt 9, 3) := by decide +kernel
theorem dX6_yard_99 : decode cX6_yard 99 = .ok (.bipush (-100), 2) := by decide +kernel
theorem dX6_yard_101 : decode cX6_yard 101 = .ok (.iload 7, 2) := by decide +kernel
theorem dX6_yard_103 : decode cX6_yard 103 = .ok (.isub, 1) := by decide +kernel
theorem dX6_yard_104 : decode cX6_yard 104 = .ok (.ireturn, 1) := by decide +kernel
theorem dX6_yard_105 : decode cX6_yard 105 = .ok (.aload_n 0, 1) := by decide +kernel
theorem dX6_yard_106 : decode cX6_yard 106 = .ok (.getfield 12, 3) := by decide +kernel
theorem dX6_yard_109 : decode cX6_yard 109 = .ok (.aload 5, 2) := by decide +kernel
theorem dX6_yard_111 : decode cX6_yard 111 = .ok (.iload_n 3, 1) := by decide +kernel
theorem dX6_yard_112 : decode cX6_yard 112 = .ok (.iload 4, 2) := by decide +kernel
theorem dX6_yard_114 : decode cX6_yard 114 = .ok (.invokevirtual 69, 3) := by decide +kernel
theorem dX6_yard_117 : decode cX6_yard 117 = .ok (.aload_n 0, 1) := by decide +kernel
theorem dX6_yard_118 : decode cX6_yard 118 = .ok (.getfield 30, 3) := by decide +kernel
theorem dX6_yard_121 : decode cX6_yard 121 = .ok (.iconst 0, 1) := by decide +kernel
theorem dX6_yard_122 : decode cX6_yard 122 = .ok (.putfield 73, 3) := by decide +kernel
theorem dX6_yard_125 : decode cX6_yard 125 = .ok (.aload_n 0, 1) := by decide +kernel
theorem dX6_yard_126 : decode cX6_yard 126 = .ok (.getfield 12, 3) := by decide +kernel
theorem dX6_yard_129 : decode cX6_yard 129 = .ok (.getfield 76, 3) := by decide +kernel
theorem dX6_yard_132 : decode cX6_yard 132 = .ok (.ireturn, 1) := by decide +kernel
theorem dX6_ofTap_0 : decode cX6_ofTap 0 = .ok (.aload_n 0, 1) := by decide +kernel
theorem dX6_ofTap_1 : decode cX6_ofTap 1 = .ok (.iload_n 1, 1) := by decide +kernel
theorem dX6_ofTap_2 : decode cX6_ofTap 2 = .ok (.invokevirtual 79, 3) := by decide +kernel
theorem dX6_ofTap_5 : decode cX6_ofTap 5 = .ok (.ifCond .eq 5, 3) := by decide +kernel
theorem dX6_ofTap_8 : decode cX6_ofTap 8 = .ok (.iconst (-1), 1) := by decide +kernel
theorem dX6_ofTap_9 : decode cX6_ofTap 9 = .ok (.ireturn, 1) := by decide +kernel
theorem dX6_ofTap_10 : decode cX6_ofTap 10 = .ok (.aload_n 0, 1) := by decide +kernel
theorem dX6_ofTap_11 : decode cX6_ofTap 11 = .ok (.getfield 12, 3) := by decide +kernel
theorem dX6_ofTap_14 : decode cX6_ofTap 14 = .ok (.getfield 82, 3) := by decide +kernel
theorem dX6_ofTap_17 : decode cX6_ofTap 17 = .ok (.iload_n 1, 1) := by decide +kernel
theorem dX6_ofTap_18 : decode cX6_ofTap 18 = .ok (.aaload, 1) := by decide +kernel
theorem dX6_ofTap_19 : decode cX6_ofTap 19 = .ok (.astore_n 3, 1) := by decide +kernel
theorem dX6_ofTap_20 : decode cX6_ofTap 20 = .ok (.iload_n 2, 1) := by decide +kernel
theorem dX6_ofTap_21 : decode cX6_ofTap 21 = .ok (.tableswitch 60 0 4 #[35, 40, 45, 50, 55], 35) := by decide +kernel
theorem dX6_ofTap_56 : decode cX6_ofTap 56 = .ok (.aload_n 3, 1) := by decide +kernel
theorem dX6_ofTap_57 : decode cX6_ofTap 57 = .ok (.getfield 86, 3) := by decide +kernel
theorem dX6_ofTap_60 : decode cX6_ofTap 60 = .ok (.ireturn, 1) := by decide +kernel
theorem dX6_ofTap_61 : decode cX6_ofTap 61 = .ok (.aload_n 3, 1) := by decide +kernel
theorem dX6_ofTap_62 : decode cX6_ofTap 62 = .ok (.getfield 91, 3) := by decide +kernel
theorem dX6_ofTap_65 : decode cX6_ofTap 65 = .ok (.ireturn, 1) := by decide +kernel
theorem dX6_ofTap_66 : decode cX6_ofTap 66 = .ok (.aload_n 3, 1) := by decide +kernel
theorem dX6_ofTap_67 : decode cX6_ofTap 67 = .ok (.getfield 94, 3) := by decide +kernel
theorem dX6_ofTap_70 : decode cX6_ofTap 70 = .ok (.ireturn, 1) := by decide +kernel
theorem dX6_ofTap_71 : decode cX6_ofTap 71 = .ok (.aload_n 3, 1) := by decide +kernel
theorem dX6_ofTap_72 : decode cX6_ofTap 72 = .ok (.getfield 97, 3) := by decide +kernel
theorem dX6_ofTap_75 : decode cX6_ofTap 75 = .ok (.ireturn, 1) := by decide +kernel
theorem dX6_ofTap_76 : decode cX6_ofTap 76 = .ok (.aload_n 3, 1) := by decide +kernel
theorem dX6_ofTap_77 : decode cX6_ofTap 77 = .ok (.invokevirtual 100, 3) := by decide +kernel
theorem dX6_ofTap_80 : decode cX6_ofTap 80 = .ok (.ireturn, 1) := by decide +kernel
theorem dX6_ofTap_81 : decode cX6_ofTap 81 = .ok (.bipush (-2), 2) := by decide +kernel
theorem dX6_ofTap_83 : decode cX6_ofTap 83 = .ok (.ireturn, 1) := by decide +kernel
theorem dX6_bore_0 : decode cX6_bore 0 = .ok (.aload_n 0, 1) := by decide +kernel
theorem dX6_bore_1 : decode cX6_bore 1 = .ok (.iload_n 1, 1) := by decide +kernel
theorem dX6_bore_2 : decode cX6_bore 2 = .ok (.invokevirtual 79, 3) := by decide +kernel
theorem dX6_bore_5 : decode cX6_bore 5 = .ok (.ifCond .eq 5, 3) := by decide +kernel
theorem dX6_bore_8 : decode cX6_bore 8 = .ok (.iconst (-1), 1) := by decide +kernel
theorem dX6_bore_9 : decode cX6_bore 9 = .ok (.ireturn, 1) := by decide +kernel
theorem dX6_bore_10 : decode cX6_bore 10 = .ok (.iconst 0, 1) := by decide +kernel
theorem dX6_bore_11 : decode cX6_bore 11 = .ok (.iload_n 2, 1) := by decide +kernel
theorem dX6_bore_12 : decode cX6_bore 12 = .ok (.bipush 9, 2) := by decide +kernel
theorem dX6_bore_14 : decode cX6_bore 14 = .ok (.invokestatic 104, 3) := by decide +kernel
theorem dX6_bore_17 : decode cX6_bore 17 = .ok (.ifCond .eq 6, 3) := by decide +kernel
theorem dX6_bore_20 : decode cX6_bore 20 = .ok (.bipush (-2), 2) := by decide +kernel
theorem dX6_bore_22 : decode cX6_bore 22 = .ok (.ireturn, 1) := by decide +kernel
theorem dX6_bore_23 : decode cX6_bore 23 = .ok (.aload_n 0, 1) := by decide +kernel
theorem dX6_bore_24 : decode cX6_bore 24 = .ok (.getfield 12, 3) := by decide +kernel
theorem dX6_bore_27 : decode cX6_bore 27 = .ok (.getfield 82, 3) := by decide +kernel
theorem dX6_bore_30 : decode cX6_bore 30 = .ok (.iload_n 1, 1) := by decide +kernel
theorem dX6_bore_31 : decode cX6_bore 31 = .ok (.aaload, 1) := by decide +kernel
theorem dX6_bore_32 : decode cX6_bore 32 = .ok (.getfield 91, 3) := by decide +kernel
theorem dX6_bore_35 : decode cX6_bore 35 = .ok (.istore_n 3, 1) := by decide +kernel
theorem dX6_bore_36 : decode cX6_bore 36 = .ok (.aload_n 0, 1) := by decide +kernel
theorem dX6_bore_37 : decode cX6_bore 37 = .ok (.getfield 12, 3) := by decide +kernel
theorem dX6_bore_40 : decode cX6_bore 40 = .ok (.getfield 82, 3) := by decide +kernel
theorem dX6_bore_43 : decode cX6_bore 43 = .ok (.iload_n 1, 1) := by decide +kernel
theorem dX6_bore_44 : decode cX6_bore 44 = .ok (.aaload, 1) := by decide +kernel
theorem dX6_bore_45 : decode cX6_bore 45 = .ok (.iload_n 2, 1) := by decide +kernel
theorem dX6_bore_46 : decode cX6_bore 46 = .ok (.putfield 91, 3) := by decide +kernel
theorem dX6_bore_49 : decode cX6_bore 49 = .ok (.iload_n 3, 1) := by decide +kernel
theorem dX6_bore_50 : decode cX6_bore 50 = .ok (.ireturn, 1) := by decide +kernel
theorem dX6_begin_0 : decode cX6_begin 0 = .ok (.aload_n 0, 1) := by decide +kernel
theorem dX6_begin_1 : decode cX6_begin 1 = .ok (.invokevirtual 108, 3) := by decide +kernel
theorem dX6_begin_4 : decode cX6_begin 4 = .ok (.ifCond .eq 6, 3) := by decide +kernel
theorem dX6_begin_7 : decode cX6_begin 7 = .ok (.bipush (-3), 2) := by decide +kernel
theorem dX6_begin_9 : decode cX6_begin 9 = .ok (.ireturn, 1) := by decide +kernel
theorem dX6_begin_10 : decode cX6_begin 10 = .ok (.iconst 0, 1) := by decide +kernel
theorem dX6_begin_11 : decode cX6_begin 11 = .ok (.iload_n 1, 1) := by decide +kernel
theorem dX6_begin_12 : decode cX6_begin 12 = .ok (.aload_n 0, 1) := by decide +kernel
theorem dX6_begin_13 : decode cX6_begin 13 = .ok (.getfield 12, 3) := by decide +kernel
theorem dX6_begin_16 : decode cX6_begin 16 = .ok (.getfield 112, 3) := by decide +kernel
theorem dX6_begin_19 : decode cX6_begin 19 = .ok (.invokestatic 104, 3) := by decide +kernel
theorem dX6_begin_22 : decode cX6_begin 22 = .ok (.ifCond .eq 6, 3) := by decide +kernel
theorem dX6_begin_25 : decode cX6_begin 25 = .ok (.bipush (-2), 2) := by decide +kernel
theorem dX6_begin_27 : decode cX6_begin 27 = .ok (.ireturn, 1) := by decide +kernel
theorem dX6_begin_28 : decode cX6_begin 28 = .ok (.aload_n 0, 1) := by decide +kernel
theorem dX6_begin_29 : decode cX6_begin 29 = .ok (.getfield 12, 3) := by decide +kernel
theorem dX6_begin_32 : decode cX6_begin 32 = .ok (.getfield 115, 3) := by decide +kernel
theorem dX6_begin_35 : decode cX6_begin 35 = .ok (.istore_n 2, 1) := by decide +kernel
theorem dX6_begin_36 : decode cX6_begin 36 = .ok (.aload_n 0, 1) := by decide +kernel
theorem dX6_begin_37 : decode cX6_begin 37 = .ok (.getfield 12, 3) := by decide +kernel
theorem dX6_begin_40 : decode cX6_begin 40 = .ok (.iload_n 1, 1) := by decide +kernel
theorem dX6_begin_41 : decode cX6_begin 41 = .ok (.putfield 115, 3) := by decide +kernel
theorem dX6_begin_44 : decode cX6_begin 44 = .ok (.iload_n 2, 1) := by decide +kernel
theorem dX6_begin_45 : decode cX6_begin 45 = .ok (.ireturn, 1) := by decide +kernel
theorem dX6_rain_0 : decode cX6_rain 0 = .ok (.iload_n 1, 1) := by decide +kernel
theorem dX6_rain_1 : decode cX6_rain 1 = .ok (.invokestatic 118, 3) := by decide +kernel
theorem dX6_rain_4 : decode cX6_rain 4 = .ok (.ifCond .eq 5, 3) := by decide +kernel
theorem dX6_rain_7 : decode cX6_rain 7 = .ok (.iconst (-1), 1) := by decide +kernel
theorem dX6_rain_8 : decode cX6_rain 8 = .ok (.ireturn, 1) := by decide +kernel
theorem dX6_rain_9 : decode cX6_rain 9 = .ok (.iconst 0, 1) := by decide +kernel
theorem dX6_rain_10 : decode cX6_rain 10 = .ok (.iload_n 2, 1) := by decide +kernel
theorem dX6_rain_11 : decode cX6_rain 11 = .ok (.bipush 99, 2) := by decide +kernel
theorem dX6_rain_13 : decode cX6_rain 13 = .ok (.invokestatic 104, 3) := by decide +kernel
theorem dX6_rain_16 : decode cX6_rain 16 = .ok (.ifCond .eq 6, 3) := by decide +kernel
theorem dX6_rain_19 : decode cX6_rain 19 = .ok (.bipush (-2), 2) := by decide +kernel
theorem dX6_rain_21 : decode cX6_rain 21 = .ok (.ireturn, 1) := by decide +kernel
theorem dX6_rain_22 : decode cX6_rain 22 = .ok (.aload_n 0, 1) := by decide +kernel
theorem dX6_rain_23 : decode cX6_rain 23 = .ok (.invokevirtual 108, 3) := by decide +kernel
theorem dX6_rain_26 : decode cX6_rain 26 = .ok (.ifCond .eq 6, 3) := by decide +kernel
theorem dX6_rain_29 : decode cX6_rain 29 = .ok (.bipush (-3), 2) := by decide +kernel
theorem dX6_rain_31 : decode cX6_rain 31 = .ok (.ireturn, 1) := by decide +kernel
theorem dX6_rain_32 : decode cX6_rain 32 = .ok (.aload_n 0, 1) := by decide +kernel
theorem dX6_rain_33 : decode cX6_rain 33 = .ok (.getfield 12, 3) := by decide +kernel
theorem dX6_rain_36 : decode cX6_rain 36 = .ok (.getfield 121, 3) := by decide +kernel
theorem dX6_rain_39 : decode cX6_rain 39 = .ok (.iload_n 1, 1) := by decide +kernel
theorem dX6_rain_40 : decode cX6_rain 40 = .ok (.iaload, 1) := by decide +kernel
theorem dX6_rain_41 : decode cX6_rain 41 = .ok (.istore_n 3, 1) := by decide +kernel
theorem dX6_rain_42 : decode cX6_rain 42 = .ok (.aload_n 0, 1) := by decide +kernel
theorem dX6_rain_43 : decode cX6_rain 43 = .ok (.getfield 12, 3) := by decide +kernel
theorem dX6_rain_46 : decode cX6_rain 46 = .ok (.getfield 121, 3) := by decide +kernel
theorem dX6_rain_49 : decode cX6_rain 49 = .ok (.iload_n 1, 1) := by decide +kernel
theorem dX6_rain_50 : decode cX6_rain 50 = .ok (.iload_n 2, 1) := by decide +kernel
theorem dX6_rain_51 : decode cX6_rain 51 = .ok (.iastore, 1) := by decide +kernel
theorem dX6_rain_52 : decode cX6_rain 52 = .ok (.iload_n 3, 1) := by decide +kernel
theorem dX6_rain_53 : decode cX6_rain 53 = .ok (.ireturn, 1) := by decide +kernel
theorem dX6_law_0 : decode cX6_law 0 = .ok (.iconst 0, 1) := by decide +kernel
theorem dX6_law_1 : decode cX6_law 1 = .ok (.iload_n 1, 1) := by decide +kernel
theorem dX6_law_2 : decode cX6_law 2 = .ok (.iconst 2, 1) := by decide +kernel
theorem dX6_law_3 : decode cX6_law 3 = .ok (.invokestatic 104, 3) := by decide +kernel
theorem dX6_law_6 : decode cX6_law 6 = .ok (.ifCond .eq 6, 3) := by decide +kernel
theorem dX6_law_9 : decode cX6_law 9 = .ok (.bipush (-2), 2) := by decide +kernel
theorem dX6_law_11 : decode cX6_law 11 = .ok (.ireturn, 1) := by decide +kernel
theorem dX6_law_12 : decode cX6_law 12 = .ok (.aload_n 0, 1) := by decide +kernel
theorem dX6_law_13 : decode cX6_law 13 = .ok (.invokevirtual 108, 3) := by decide +kernel
theorem dX6_law_16 : decode cX6_law 16 = .ok (.ifCond .eq 6, 3) := by decide +kernel
theorem dX6_law_19 : decode cX6_law 19 = .ok (.bipush (-3), 2) := by decide +kernel
theorem dX6_law_21 : decode cX6_law 21 = .ok (.ireturn, 1) := by decide +kernel
theorem dX6_law_22 : decode cX6_law 22 = .ok (.aload_n 0, 1) := by decide +kernel
theorem dX6_law_23 : decode cX6_law 23 = .ok (.getfield 12, 3) := by decide +kernel
theorem dX6_law_26 : decode cX6_law 26 = .ok (.getfield 125, 3) := by decide +kernel
theorem dX6_law_29 : decode cX6_law 29 = .ok (.istore_n 2, 1) := by decide +kernel
theorem dX6_law_30 : decode cX6_law 30 = .ok (.aload_n 0, 1) := by decide +kernel
theorem dX6_law_31 : decode cX6_law 31 = .ok (.getfield 12, 3) := by decide +kernel
theorem dX6_law_34 : decode cX6_law 34 = .ok (.iload_n 1, 1) := by decide +kernel
theorem dX6_law_35 : decode cX6_law 35 = .ok (.putfield 125, 3) := by decide +kernel
theorem dX6_law_38 : decode cX6_law 38 = .ok (.iload_n 2, 1) := by decide +kernel
theorem dX6_law_39 : decode cX6_law 39 = .ok (.ireturn, 1) := by decide +kernel
theorem dX6_leak_0 : decode cX6_leak 0 = .ok (.iconst 0, 1) := by decide +kernel
theorem dX6_leak_1 : decode cX6_leak 1 = .ok (.iload_n 1, 1) := by decide +kernel
theorem dX6_leak_2 : decode cX6_leak 2 = .ok (.bipush 9, 2) := by decide +kernel
theorem dX6_leak_4 : decode cX6_leak 4 = .ok (.invokestatic 104, 3) := by decide +kernel
theorem dX6_leak_7 : decode cX6_leak 7 = .ok (.ifCond .ne 13, 3) := by decide +kernel
theorem dX6_leak_10 : decode cX6_leak 10 = .ok (.iconst 0, 1) := by decide +kernel
theorem dX6_leak_11 : decode cX6_leak 11 = .ok (.iload_n 2, 1) := by decide +kernel
theorem dX6_leak_12 : decode cX6_leak 12 = .ok (.bipush 9, 2) := by decide +kernel
theorem dX6_leak_14 : decode cX6_leak 14 = .ok (.invokestatic 104, 3) := by decide +kernel
theorem dX6_leak_17 : decode cX6_leak 17 = .ok (.ifCond .eq 6, 3) := by decide +kernel
theorem dX6_leak_20 : decode cX6_leak 20 = .ok (.bipush (-2), 2) := by decide +kernel
theorem dX6_leak_22 : decode cX6_leak 22 = .ok (.ireturn, 1) := by decide +kernel
theorem dX6_leak_23 : decode cX6_leak 23 = .ok (.aload_n 0, 1) := by decide +kernel
theorem dX6_leak_24 : decode cX6_leak 24 = .ok (.invokevirtual 108, 3) := by decide +kernel
theorem dX6_leak_27 : decode cX6_leak 27 = .ok (.ifCond .eq 6, 3) := by decide +kernel
theorem dX6_leak_30 : decode cX6_leak 30 = .ok (.bipush (-3), 2) := by decide +kernel
theorem dX6_leak_32 : decode cX6_leak 32 = .ok (.ireturn, 1) := by decide +kernel
theorem dX6_leak_33 : decode cX6_leak 33 = .ok (.bipush 10, 2) := by decide +kernel
theorem dX6_leak_35 : decode cX6_leak 35 = .ok (.aload_n 0, 1) := by decide +kernel
theorem dX6_leak_36 : decode cX6_leak 36 = .ok (.getfield 12, 3) := by decide +kernel
theorem dX6_leak_39 : decode cX6_leak 39 = .ok (.getfield 128, 3) := by decide +kernel
theorem dX6_leak_42 : decode cX6_leak 42 = .ok (.imul, 1) := by decide +kernel
theorem dX6_leak_43 : decode cX6_leak 43 = .ok (.aload_n 0, 1) := by decide +kernel
theorem dX6_leak_44 : decode cX6_leak 44 = .ok (.getfield 12, 3) := by decide +kernel
theorem dX6_leak_47 : decode cX6_leak 47 = .ok (.getfield 131, 3) := by decide +kernel
theorem dX6_leak_50 : decode cX6_leak 50 = .ok (.iadd, 1) := by decide +kernel
theorem dX6_leak_51 : decode cX6_leak 51 = .ok (.istore_n 3, 1) := by decide +kernel
theorem dX6_leak_52 : decode cX6_leak 52 = .ok (.aload_n 0, 1) := by decide +kernel
theorem dX6_leak_53 : decode cX6_leak 53 = .ok (.getfield 12, 3) := by decide +kernel
theorem dX6_leak_56 : decode cX6_leak 56 = .ok (.iload_n 1, 1) := by decide +kernel
theorem dX6_leak_57 : decode cX6_leak 57 = .ok (.putfield 128, 3) := by decide +kernel
theorem dX6_leak_60 : decode cX6_leak 60 = .ok (.aload_n 0, 1) := by decide +kernel
theorem dX6_leak_61 : decode cX6_leak 61 = .ok (.getfield 12, 3) := by decide +kernel
theorem dX6_leak_64 : decode cX6_leak 64 = .ok (.iload_n 2, 1) := by decide +kernel
theorem dX6_leak_65 : decode cX6_leak 65 = .ok (.putfield 131, 3) := by decide +kernel
theorem dX6_leak_68 : decode cX6_leak 68 = .ok (.iload_n 3, 1) := by decide +kernel
theorem dX6_leak_69 : decode cX6_leak 69 = .ok (.ireturn, 1) := by decide +kernel
theorem dX6_got_0 : decode cX6_got 0 = .ok (.aload_n 0, 1) := by decide +kernel
theorem dX6_got_1 : decode cX6_got 1 = .ok (.iload_n 1, 1) := by decide +kernel
theorem dX6_got_2 : decode cX6_got 2 = .ok (.invokevirtual 79, 3) := by decide +kernel
theorem dX6_got_5 : decode cX6_got 5 = .ok (.ifCond .ne 10, 3) := by decide +kernel
theorem dX6_got_8 : decode cX6_got 8 = .ok (.iload_n 2, 1) := by decide +kernel
theorem dX6_got_9 : decode cX6_got 9 = .ok (.invokestatic 118, 3) := by decide +kernel
theorem dX6_got_12 : decode cX6_got 12 = .ok (.ifCond .eq 5, 3) := by decide +kernel
theorem dX6_got_15 : decode cX6_got 15 = .ok (.iconst (-1), 1) := by decide +kernel
theorem dX6_got_16 : decode cX6_got 16 = .ok (.ireturn, 1) := by decide +kernel
theorem dX6_got_17 : decode cX6_got 17 = .ok (.aload_n 0, 1) := by decide +kernel
theorem dX6_got_18 : decode cX6_got 18 = .ok (.iload_n 2, 1) := by decide +kernel
theorem dX6_got_19 : decode cX6_got 19 = .ok (.iconst 1, 1) := by decide +kernel
theorem dX6_got_20 : decode cX6_got 20 = .ok (.iadd, 1) := by decide +kernel
theorem dX6_got_21 : decode cX6_got 21 = .ok (.invokevirtual 134, 3) := by decide +kernel
theorem dX6_got_24 : decode cX6_got 24 = .ok (.aload_n 0, 1) := by decide +kernel
theorem dX6_got_25 : decode cX6_got 25 = .ok (.getfield 23, 3) := by decide +kernel
theorem dX6_got_28 : decode cX6_got 28 = .ok (.iload_n 1, 1) := by decide +kernel
theorem dX6_got_29 : decode cX6_got 29 = .ok (.iload_n 2, 1) := by decide +kernel
theorem dX6_got_30 : decode cX6_got 30 = .ok (.invokevirtual 138, 3) := by decide +kernel
theorem dX6_got_33 : decode cX6_got 33 = .ok (.ireturn, 1) := by decide +kernel
theorem dX6_level_0 : decode cX6_level 0 = .ok (.iconst 0, 1) := by decide +kernel
theorem dX6_level_1 : decode cX6_level 1 = .ok (.iload_n 1, 1) := by decide +kernel
theorem dX6_level_2 : decode cX6_level 2 = .ok (.bipush 10, 2) := by decide +kernel
theorem dX6_level_4 : decode cX6_level 4 = .ok (.invokestatic 104, 3) := by decide +kernel
theorem dX6_level_7 : decode cX6_level 7 = .ok (.ifCond .eq 5, 3) := by decide +kernel
theorem dX6_level_10 : decode cX6_level 10 = .ok (.iconst (-1), 1) := by decide +kernel
theorem dX6_level_11 : decode cX6_level 11 = .ok (.ireturn, 1) := by decide +kernel
theorem dX6_level_12 : decode cX6_level 12 = .ok (.aload_n 0, 1) := by decide +kernel
theorem dX6_level_13 : decode cX6_level 13 = .ok (.invokevirtual 108, 3) := by decide +kernel
theorem dX6_level_16 : decode cX6_level 16 = .ok (.ifCond .eq 6, 3) := by decide +kernel
theorem dX6_level_19 : decode cX6_level 19 = .ok (.bipush (-3), 2) := by decide +kernel
theorem dX6_level_21 : decode cX6_level 21 = .ok (.ireturn, 1) := by decide +kernel
theorem dX6_level_22 : decode cX6_level 22 = .ok (.aload_n 0, 1) := by decide +kernel
theorem dX6_level_23 : decode cX6_level 23 = .ok (.iload_n 1, 1) := by decide +kernel
theorem dX6_level_24 : decode cX6_level 24 = .ok (.invokevirtual 134, 3) := by decide +kernel
theorem dX6_level_27 : decode cX6_level 27 = .ok (.aload_n 0, 1) := by decide +kernel
theorem dX6_level_28 : decode cX6_level 28 = .ok (.getfield 23, 3) := by decide +kernel
theorem dX6_level_31 : decode cX6_level 31 = .ok (.getfield 142, 3) := by decide +kernel
theorem dX6_level_34 : decode cX6_level 34 = .ok (.iload_n 1, 1) := by decide +kernel
theorem dX6_level_35 : decode cX6_level 35 = .ok (.iaload, 1) := by decide +kernel
theorem dX6_level_36 : decode cX6_level 36 = .ok (.ireturn, 1) := by decide +kernel
theorem dX6_over_0 : decode cX6_over 0 = .ok (.iload_n 1, 1) := by decide +kernel
theorem dX6_over_1 : decode cX6_over 1 = .ok (.invokestatic 118, 3) := by decide +kernel
theorem dX6_over_4 : decode cX6_over 4 = .ok (.ifCond .eq 5, 3) := by decide +kernel
theorem dX6_over_7 : decode cX6_over 7 = .ok (.iconst (-1), 1) := by decide +kernel
theorem dX6_over_8 : decode cX6_over 8 = .ok (.ireturn, 1) := by decide +kernel
theorem dX6_over_9 : decode cX6_over 9 = .ok (.aload_n 0, 1) := by decide +kernel
theorem dX6_over_10 : decode cX6_over 10 = .ok (.invokevirtual 108, 3) := by decide +kernel
theorem dX6_over_13 : decode cX6_over 13 = .ok (.ifCond .eq 6, 3) := by decide +kernel
theorem dX6_over_16 : decode cX6_over 16 = .ok (.bipush (-3), 2) := by decide +kernel
theorem dX6_over_18 : decode cX6_over 18 = .ok (.ireturn, 1) := by decide +kernel
theorem dX6_over_19 : decode cX6_over 19 = .ok (.aload_n 0, 1) := by decide +kernel
theorem dX6_over_20 : decode cX6_over 20 = .ok (.iload_n 1, 1) := by decide +kernel
theorem dX6_over_21 : decode cX6_over 21 = .ok (.iconst 1, 1) := by decide +kernel
theorem dX6_over_22 : decode cX6_over 22 = .ok (.iadd, 1) := by decide +kernel
theorem dX6_over_23 : decode cX6_over 23 = .ok (.invokevirtual 134, 3) := by decide +kernel
theorem dX6_over_26 : decode cX6_over 26 = .ok (.aload_n 0, 1) := by decide +kernel
theorem dX6_over_27 : decode cX6_over 27 = .ok (.getfield 23, 3) := by decide +kernel
theorem dX6_over_30 : decode cX6_over 30 = .ok (.getfield 145, 3) := by decide +kernel
theorem dX6_over_33 : decode cX6_over 33 = .ok (.iload_n 1, 1) := by decide +kernel
theorem dX6_over_34 : decode cX6_over 34 = .ok (.iaload, 1) := by decide +kernel
theorem dX6_over_35 : decode cX6_over 35 = .ok (.ireturn, 1) := by decide +kernel
theorem dX6_nobody_0 : decode cX6_nobody 0 = .ok (.iconst 0, 1) := by decide +kernel
theorem dX6_nobody_1 : decode cX6_nobody 1 = .ok (.iload_n 1, 1) := by decide +kernel
theorem dX6_nobody_2 : decode cX6_nobody 2 = .ok (.bipush 10, 2) := by decide +kernel
theorem dX6_nobody_4 : decode cX6_nobody 4 = .ok (.invokestatic 104, 3) := by decide +kernel
theorem dX6_nobody_7 : decode cX6_nobody 7 = .ok (.ifCond .eq 5, 3) := by decide +kernel
theorem dX6_nobody_10 : decode cX6_nobody 10 = .ok (.iconst (-1), 1) := by decide +kernel
theorem dX6_nobody_11 : decode cX6_nobody 11 = .ok (.ireturn, 1) := by decide +kernel
theorem dX6_nobody_12 : decode cX6_nobody 12 = .ok (.aload_n 0, 1) := by decide +kernel
theorem dX6_nobody_13 : decode cX6_nobody 13 = .ok (.invokevirtual 108, 3) := by decide +kernel
theorem dX6_nobody_16 : decode cX6_nobody 16 = .ok (.ifCond .eq 6, 3) := by decide +kernel
theorem dX6_nobody_19 : decode cX6_nobody 19 = .ok (.bipush (-3), 2) := by decide +kernel
theorem dX6_nobody_21 : decode cX6_nobody 21 = .ok (.ireturn, 1) := by decide +kernel
theorem dX6_nobody_22 : decode cX6_nobody 22 = .ok (.aload_n 0, 1) := by decide +kernel
theorem dX6_nobody_23 : decode cX6_nobody 23 = .ok (.iload_n 1, 1) := by decide +kernel
theorem dX6_nobody_24 : decode cX6_nobody 24 = .ok (.invokevirtual 134, 3) := by decide +kernel
theorem dX6_nobody_27 : decode cX6_nobody 27 = .ok (.aload_n 0, 1) := by decide +kernel
theorem dX6_nobody_28 : decode cX6_nobody 28 = .ok (.getfield 12, 3) := by decide +kernel
theorem dX6_nobody_31 : decode cX6_nobody 31 = .ok (.aload_n 0, 1) := by decide +kernel
theorem dX6_nobody_32 : decode cX6_nobody 32 = .ok (.getfield 23, 3) := by decide +kernel
theorem dX6_nobody_35 : decode cX6_nobody 35 = .ok (.getfield 142, 3) := by decide +kernel
theorem dX6_nobody_38 : decode cX6_nobody 38 = .ok (.iload_n 1, 1) := by decide +kernel
theorem dX6_nobody_39 : decode cX6_nobody 39 = .ok (.iaload, 1) := by decide +kernel
theorem dX6_nobody_40 : decode cX6_nobody 40 = .ok (.invokevirtual 148, 3) := by decide +kernel
theorem dX6_nobody_43 : decode cX6_nobody 43 = .ok (.ireturn, 1) := by decide +kernel
theorem dX6_dry_0 : decode cX6_dry 0 = .ok (.aload_n 0, 1) := by decide +kernel
theorem dX6_dry_1 : decode cX6_dry 1 = .ok (.iload_n 1, 1) := by decide +kernel
theorem dX6_dry_2 : decode cX6_dry 2 = .ok (.invokevirtual 79, 3) := by decide +kernel
theorem dX6_dry_5 : decode cX6_dry 5 = .ok (.ifCond .eq 5, 3) := by decide +kernel
theorem dX6_dry_8 : decode cX6_dry 8 = .ok (.iconst (-1), 1) := by decide +kernel
theorem dX6_dry_9 : decode cX6_dry 9 = .ok (.ireturn, 1) := by decide +kernel
theorem dX6_dry_10 : decode cX6_dry 10 = .ok (.aload_n 0, 1) := by decide +kernel
theorem dX6_dry_11 : decode cX6_dry 11 = .ok (.bipush 10, 2) := by decide +kernel
theorem dX6_dry_13 : decode cX6_dry 13 = .ok (.invokevirtual 134, 3) := by decide +kernel
theorem dX6_dry_16 : decode cX6_dry 16 = .ok (.aload_n 0, 1) := by decide +kernel
theorem dX6_dry_17 : decode cX6_dry 17 = .ok (.getfield 23, 3) := by decide +kernel
theorem dX6_dry_20 : decode cX6_dry 20 = .ok (.iload_n 1, 1) := by decide +kernel
theorem dX6_dry_21 : decode cX6_dry 21 = .ok (.bipush 10, 2) := by decide +kernel
theorem dX6_dry_23 : decode cX6_dry 23 = .ok (.invokevirtual 151, 3) := by decide +kernel
theorem dX6_dry_26 : decode cX6_dry 26 = .ok (.ireturn, 1) := by decide +kernel
theorem dX6_can_0 : decode cX6_can 0 = .ok (.iconst 0, 1) := by decide +kernel
theorem dX6_can_1 : decode cX6_can 1 = .ok (.iload_n 1, 1) := by decide +kernel
theorem dX6_can_2 : decode cX6_can 2 = .ok (.bipush 10, 2) := by decide +kernel
theorem dX6_can_4 : decode cX6_can 4 = .ok (.invokestatic 104, 3) := by decide +kernel
theorem dX6_can_7 : decode cX6_can 7 = .ok (.ifCond .eq 6, 3) := by decide +kernel
theorem dX6_can_10 : decode cX6_can 10 = .ok (.bipush (-2), 2) := by decide +kernel
theorem dX6_can_12 : decode cX6_can 12 = .ok (.ireturn, 1) := by decide +kernel
theorem dX6_can_13 : decode cX6_can 13 = .ok (.aload_n 0, 1) := by decide +kernel
theorem dX6_can_14 : decode cX6_can 14 = .ok (.invokevirtual 108, 3) := by decide +kernel
theorem dX6_can_17 : decode cX6_can 17 = .ok (.ifCond .eq 6, 3) := by decide +kernel
theorem dX6_can_20 : decode cX6_can 20 = .ok (.bipush (-3), 2) := by decide +kernel
theorem dX6_can_22 : decode cX6_can 22 = .ok (.ireturn, 1) := by decide +kernel
theorem dX6_can_23 : decode cX6_can 23 = .ok (.aload_n 0, 1) := by decide +kernel
theorem dX6_can_24 : decode cX6_can 24 = .ok (.getfield 23, 3) := by decide +kernel
theorem dX6_can_27 : decode cX6_can 27 = .ok (.aload_n 0, 1) := by decide +kernel
theorem dX6_can_28 : decode cX6_can 28 = .ok (.getfield 12, 3) := by decide +kernel
theorem dX6_can_31 : decode cX6_can 31 = .ok (.getfield 115, 3) := by decide +kernel
theorem dX6_can_34 : decode cX6_can 34 = .ok (.iload_n 1, 1) := by decide +kernel
theorem dX6_can_35 : decode cX6_can 35 = .ok (.invokevirtual 154, 3) := by decide +kernel
theorem dX6_can_38 : decode cX6_can 38 = .ok (.ifCond .eq 7, 3) := by decide +kernel
theorem dX6_can_41 : decode cX6_can 41 = .ok (.iconst 1, 1) := by decide +kernel
theorem dX6_can_42 : decode cX6_can 42 = .ok (.goto 4, 3) := by decide +kernel
theorem dX6_can_45 : decode cX6_can 45 = .ok (.iconst 0, 1) := by decide +kernel
theorem dX6_can_46 : decode cX6_can 46 = .ok (.ireturn, 1) := by decide +kernel
theorem dX6_start_0 : decode cX6_start 0 = .ok (.iconst 0, 1) := by decide +kernel
theorem dX6_start_1 : decode cX6_start 1 = .ok (.iload_n 1, 1) := by decide +kernel
theorem dX6_start_2 : decode cX6_start 2 = .ok (.bipush 10, 2) := by decide +kernel
theorem dX6_start_4 : decode cX6_start 4 = .ok (.invokestatic 104, 3) := by decide +kernel
theorem dX6_start_7 : decode cX6_start 7 = .ok (.ifCond .eq 6, 3) := by decide +kernel
theorem dX6_start_10 : decode cX6_start 10 = .ok (.bipush (-2), 2) := by decide +kernel
theorem dX6_start_12 : decode cX6_start 12 = .ok (.ireturn, 1) := by decide +kernel
theorem dX6_start_13 : decode cX6_start 13 = .ok (.aload_n 0, 1) := by decide +kernel
theorem dX6_start_14 : decode cX6_start 14 = .ok (.invokevirtual 108, 3) := by decide +kernel
theorem dX6_start_17 : decode cX6_start 17 = .ok (.ifCond .eq 6, 3) := by decide +kernel
theorem dX6_start_20 : decode cX6_start 20 = .ok (.bipush (-3), 2) := by decide +kernel
theorem dX6_start_22 : decode cX6_start 22 = .ok (.ireturn, 1) := by decide +kernel
theorem dX6_start_23 : decode cX6_start 23 = .ok (.iconst 0, 1) := by decide +kernel
theorem dX6_start_24 : decode cX6_start 24 = .ok (.istore_n 2, 1) := by decide +kernel
theorem dX6_start_25 : decode cX6_start 25 = .ok (.iload_n 2, 1) := by decide +kernel
theorem dX6_start_26 : decode cX6_start 26 = .ok (.aload_n 0, 1) := by decide +kernel
theorem dX6_start_27 : decode cX6_start 27 = .ok (.getfield 12, 3) := by decide +kernel
theorem dX6_start_30 : decode cX6_start 30 = .ok (.getfield 112, 3) := by decide +kernel
theorem dX6_start_33 : decode cX6_start 33 = .ok (.if_icmp .gt 23, 3) := by decide +kernel
theorem dX6_start_36 : decode cX6_start 36 = .ok (.aload_n 0, 1) := by decide +kernel
theorem dX6_start_37 : decode cX6_start 37 = .ok (.getfield 23, 3) := by decide +kernel
theorem dX6_start_40 : decode cX6_start 40 = .ok (.iload_n 2, 1) := by decide +kernel
theorem dX6_start_41 : decode cX6_start 41 = .ok (.iload_n 1, 1) := by decide +kernel
theorem dX6_start_42 : decode cX6_start 42 = .ok (.invokevirtual 154, 3) := by decide +kernel
theorem dX6_start_45 : decode cX6_start 45 = .ok (.ifCond .eq 5, 3) := by decide +kernel
theorem dX6_start_48 : decode cX6_start 48 = .ok (.iload_n 2, 1) := by decide +kernel
theorem dX6_start_49 : decode cX6_start 49 = .ok (.ireturn, 1) := by decide +kernel
theorem dX6_start_50 : decode cX6_start 50 = .ok (.iinc 2 1, 3) := by decide +kernel
theorem dX6_start_53 : decode cX6_start 53 = .ok (.goto (-28), 3) := by decide +kernel
theorem dX6_start_56 : decode cX6_start 56 = .ok (.bipush (-9), 2) := by decide +kernel
theorem dX6_start_58 : decode cX6_start 58 = .ok (.ireturn, 1) := by decide +kernel
theorem dX6_best_0 : decode cX6_best 0 = .ok (.iconst 0, 1) := by decide +kernel
theorem dX6_best_1 : decode cX6_best 1 = .ok (.iload_n 1, 1) := by decide +kernel
theorem dX6_best_2 : decode cX6_best 2 = .ok (.bipush 10, 2) := by decide +kernel
theorem dX6_best_4 : decode cX6_best 4 = .ok (.invokestatic 104, 3) := by decide +kernel
theorem dX6_best_7 : decode cX6_best 7 = .ok (.ifCond .ne 12, 3) := by decide +kernel
theorem dX6_best_10 : decode cX6_best 10 = .ok (.iconst 0, 1) := by decide +kernel
theorem dX6_best_11 : decode cX6_best 11 = .ok (.iload_n 2, 1) := by decide +kernel
theorem dX6_best_12 : decode cX6_best 12 = .ok (.iconst 1, 1) := by decide +kernel
theorem dX6_best_13 : decode cX6_best 13 = .ok (.invokestatic 104, 3) := by decide +kernel
theorem dX6_best_16 : decode cX6_best 16 = .ok (.ifCond .eq 6, 3) := by decide +kernel
theorem dX6_best_19 : decode cX6_best 19 = .ok (.bipush (-2), 2) := by decide +kernel
theorem dX6_best_21 : decode cX6_best 21 = .ok (.ireturn, 1) := by decide +kernel
theorem dX6_best_22 : decode cX6_best 22 = .ok (.aload_n 0, 1) := by decide +kernel
theorem dX6_best_23 : decode cX6_best 23 = .ok (.invokevirtual 108, 3) := by decide +kernel
theorem dX6_best_26 : decode cX6_best 26 = .ok (.ifCond .eq 6, 3) := by decide +kernel
theorem dX6_best_29 : decode cX6_best 29 = .ok (.bipush (-3), 2) := by decide +kernel
theorem dX6_best_31 : decode cX6_best 31 = .ok (.ireturn, 1) := by decide +kernel
theorem dX6_best_32 : decode cX6_best 32 = .ok (.iconst 0, 1) := by decide +kernel
theorem dX6_best_33 : decode cX6_best 33 = .ok (.istore_n 3, 1) := by decide +kernel
theorem dX6_best_34 : decode cX6_best 34 = .ok (.iconst (-1), 1) := by decide +kernel
theorem dX6_best_35 : decode cX6_best 35 = .ok (.istore 4, 2) := by decide +kernel
theorem dX6_best_37 : decode cX6_best 37 = .ok (.iconst 0, 1) := by decide +kernel
theorem dX6_best_38 : decode cX6_best 38 = .ok (.istore 5, 2) := by decide +kernel
theorem dX6_best_40 : decode cX6_best 40 = .ok (.iload 5, 2) := by decide +kernel
theorem dX6_best_42 : decode cX6_best 42 = .ok (.iconst 2, 1) := by decide +kernel
theorem dX6_best_43 : decode cX6_best 43 = .ok (.if_icmp .gt 58, 3) := by decide +kernel
theorem dX6_best_46 : decode cX6_best 46 = .ok (.aload_n 0, 1) := by decide +kernel
theorem dX6_best_47 : decode cX6_best 47 = .ok (.getfield 23, 3) := by decide +kernel
theorem dX6_best_50 : decode cX6_best 50 = .ok (.aload_n 0, 1) := by decide +kernel
theorem dX6_best_51 : decode cX6_best 51 = .ok (.getfield 12, 3) := by decide +kernel
theorem dX6_best_54 : decode cX6_best 54 = .ok (.getfield 115, 3) := by decide +kernel
theorem dX6_best_57 : decode cX6_best 57 = .ok (.iload 5, 2) := by decide +kernel
theorem dX6_best_59 : decode cX6_best 59 = .ok (.invokevirtual 157, 3) := by decide +kernel
theorem dX6_best_62 : decode cX6_best 62 = .ok (.aload_n 0, 1) := by decide +kernel
theorem dX6_best_63 : decode cX6_best 63 = .ok (.getfield 23, 3) := by decide +kernel
theorem dX6_best_66 : decode cX6_best 66 = .ok (.iconst 0, 1) := by decide +kernel
theorem dX6_best_67 : decode cX6_best 67 = .ok (.iload_n 1, 1) := by decide +kernel
theorem dX6_best_68 : decode cX6_best 68 = .ok (.invokevirtual 161, 3) := by decide +kernel
theorem dX6_best_71 : decode cX6_best 71 = .ok (.aload_n 0, 1) := by decide +kernel
theorem dX6_best_72 : decode cX6_best 72 = .ok (.getfield 23, 3) := by decide +kernel
theorem dX6_best_75 : decode cX6_best 75 = .ok (.iload_n 1, 1) := by decide +kernel
theorem dX6_best_76 : decode cX6_best 76 = .ok (.invokevirtual 164, 3) := by decide +kernel
theorem dX6_best_79 : decode cX6_best 79 = .ok (.istore 6, 2) := by decide +kernel
theorem dX6_best_81 : decode cX6_best 81 = .ok (.iload 6, 2) := by decide +kernel
theorem dX6_best_83 : decode cX6_best 83 = .ok (.iload 4, 2) := by decide +kernel
theorem dX6_best_85 : decode cX6_best 85 = .ok (.if_icmp .le 10, 3) := by decide +kernel
theorem dX6_best_88 : decode cX6_best 88 = .ok (.iload 6, 2) := by decide +kernel
theorem dX6_best_90 : decode cX6_best 90 = .ok (.istore 4, 2) := by decide +kernel
theorem dX6_best_92 : decode cX6_best 92 = .ok (.iload 5, 2) := by decide +kernel
theorem dX6_best_94 : decode cX6_best 94 = .ok (.istore_n 3, 1) := by decide +kernel
theorem dX6_best_95 : decode cX6_best 95 = .ok (.iinc 5 1, 3) := by decide +kernel
theorem dX6_best_98 : decode cX6_best 98 = .ok (.goto (-58), 3) := by decide +kernel
theorem dX6_best_101 : decode cX6_best 101 = .ok (.iload_n 2, 1) := by decide +kernel
theorem dX6_best_102 : decode cX6_best 102 = .ok (.ifCond .ne 7, 3) := by decide +kernel
theorem dX6_best_105 : decode cX6_best 105 = .ok (.iload_n 3, 1) := by decide +kernel
theorem dX6_best_106 : decode cX6_best 106 = .ok (.goto 5, 3) := by decide +kernel
theorem dX6_best_109 : decode cX6_best 109 = .ok (.iload 4, 2) := by decide +kernel
theorem dX6_best_111 : decode cX6_best 111 = .ok (.ireturn, 1) := by decide +kernel
theorem dX6_highest_0 : decode cX6_highest 0 = .ok (.aload_n 0, 1) := by decide +kernel
theorem dX6_highest_1 : decode cX6_highest 1 = .ok (.iload_n 1, 1) := by decide +kernel
theorem dX6_highest_2 : decode cX6_highest 2 = .ok (.invokevirtual 79, 3) := by decide +kernel
theorem dX6_highest_5 : decode cX6_highest 5 = .ok (.ifCond .eq 5, 3) := by decide +kernel
theorem dX6_highest_8 : decode cX6_highest 8 = .ok (.iconst (-1), 1) := by decide +kernel
theorem dX6_highest_9 : decode cX6_highest 9 = .ok (.ireturn, 1) := by decide +kernel
theorem dX6_highest_10 : decode cX6_highest 10 = .ok (.iconst 0, 1) := by decide +kernel
theorem dX6_highest_11 : decode cX6_highest 11 = .ok (.iload_n 2, 1) := by decide +kernel
theorem dX6_highest_12 : decode cX6_highest 12 = .ok (.bipush 10, 2) := by decide +kernel
theorem dX6_highest_14 : decode cX6_highest 14 = .ok (.invokestatic 104, 3) := by decide +kernel
theorem dX6_highest_17 : decode cX6_highest 17 = .ok (.ifCond .eq 6, 3) := by decide +kernel
theorem dX6_highest_20 : decode cX6_highest 20 = .ok (.bipush (-2), 2) := by decide +kernel
theorem dX6_highest_22 : decode cX6_highest 22 = .ok (.ireturn, 1) := by decide +kernel
theorem dX6_highest_23 : decode cX6_highest 23 = .ok (.aload_n 0, 1) := by decide +kernel
theorem dX6_highest_24 : decode cX6_highest 24 = .ok (.getfield 12, 3) := by decide +kernel
theorem dX6_highest_27 : decode cX6_highest 27 = .ok (.getfield 82, 3) := by decide +kernel
theorem dX6_highest_30 : decode cX6_highest 30 = .ok (.iload_n 1, 1) := by decide +kernel
theorem dX6_highest_31 : decode cX6_highest 31 = .ok (.aaload, 1) := by decide +kernel
theorem dX6_highest_32 : decode cX6_highest 32 = .ok (.astore_n 3, 1) := by decide +kernel
theorem dX6_highest_33 : decode cX6_highest 33 = .ok (.aload_n 3, 1) := by decide +kernel
theorem dX6_highest_34 : decode cX6_highest 34 = .ok (.getfield 91, 3) := by decide +kernel
theorem dX6_highest_37 : decode cX6_highest 37 = .ok (.istore 4, 2) := by decide +kernel
theorem dX6_highest_39 : decode cX6_highest 39 = .ok (.bipush (-9), 2) := by decide +kernel
theorem dX6_highest_41 : decode cX6_highest 41 = .ok (.istore 5, 2) := by decide +kernel
theorem dX6_highest_43 : decode cX6_highest 43 = .ok (.bipush 9, 2) := by decide +kernel
theorem dX6_highest_45 : decode cX6_highest 45 = .ok (.istore 6, 2) := by decide +kernel
theorem dX6_highest_47 : decode cX6_highest 47 = .ok (.iload 6, 2) := by decide +kernel
theorem dX6_highest_49 : decode cX6_highest 49 = .ok (.ifCond .lt 45, 3) := by decide +kernel
theorem dX6_highest_52 : decode cX6_highest 52 = .ok (.iload 5, 2) := by decide +kernel
theorem dX6_highest_54 : decode cX6_highest 54 = .ok (.bipush (-9), 2) := by decide +kernel
theorem dX6_highest_56 : decode cX6_highest 56 = .ok (.if_icmp .ne 38, 3) := by decide +kernel
theorem dX6_highest_59 : decode cX6_highest 59 = .ok (.aload_n 3, 1) := by decide +kernel
theorem dX6_highest_60 : decode cX6_highest 60 = .ok (.iload 6, 2) := by decide +kernel
theorem dX6_highest_62 : decode cX6_highest 62 = .ok (.putfield 91, 3) := by decide +kernel
theorem dX6_highest_65 : decode cX6_highest 65 = .ok (.aload_n 0, 1) := by decide +kernel
theorem dX6_highest_66 : decode cX6_highest 66 = .ok (.iload_n 2, 1) := by decide +kernel
theorem dX6_highest_67 : decode cX6_highest 67 = .ok (.invokevirtual 134, 3) := by decide +kernel
theorem dX6_highest_70 : decode cX6_highest 70 = .ok (.aload_n 0, 1) := by decide +kernel
theorem dX6_highest_71 : decode cX6_highest 71 = .ok (.getfield 23, 3) := by decide +kernel
theorem dX6_highest_74 : decode cX6_highest 74 = .ok (.iload_n 1, 1) := by decide +kernel
theorem dX6_highest_75 : decode cX6_highest 75 = .ok (.iload_n 2, 1) := by decide +kernel
theorem dX6_highest_76 : decode cX6_highest 76 = .ok (.invokevirtual 151, 3) := by decide +kernel
theorem dX6_highest_79 : decode cX6_highest 79 = .ok (.bipush (-9), 2) := by decide +kernel
theorem dX6_highest_81 : decode cX6_highest 81 = .ok (.if_icmp .ne 7, 3) := by decide +kernel
theorem dX6_highest_84 : decode cX6_highest 84 = .ok (.iload 6, 2) := by decide +kernel
theorem dX6_highest_86 : decode cX6_highest 86 = .ok (.istore 5, 2) := by decide +kernel
theorem dX6_highest_88 : decode cX6_highest 88 = .ok (.iinc 6 (-1), 3) := by decide +kernel
theorem dX6_highest_91 : decode cX6_highest 91 = .ok (.goto (-44), 3) := by decide +kernel
theorem dX6_highest_94 : decode cX6_highest 94 = .ok (.aload_n 3, 1) := by decide +kernel
theorem dX6_highest_95 : decode cX6_highest 95 = .ok (.iload 4, 2) := by decide +kernel
theorem dX6_highest_97 : decode cX6_highest 97 = .ok (.putfield 91, 3) := by decide +kernel
theorem dX6_highest_100 : decode cX6_highest 100 = .ok (.iload 5, 2) := by decide +kernel
theorem dX6_highest_102 : decode cX6_highest 102 = .ok (.ireturn, 1) := by decide +kernel
theorem dX6_worst_0 : decode cX6_worst 0 = .ok (.iconst 1, 1) := by decide +kernel
theorem dX6_worst_1 : decode cX6_worst 1 = .ok (.iload_n 1, 1) := by decide +kernel
theorem dX6_worst_2 : decode cX6_worst 2 = .ok (.bipush 10, 2) := by decide +kernel
theorem dX6_worst_4 : decode cX6_worst 4 = .ok (.invokestatic 104, 3) := by decide +kernel
theorem dX6_worst_7 : decode cX6_worst 7 = .ok (.ifCond .ne 19, 3) := by decide +kernel
theorem dX6_worst_10 : decode cX6_worst 10 = .ok (.iconst 0, 1) := by decide +kernel
theorem dX6_worst_11 : decode cX6_worst 11 = .ok (.iload_n 2, 1) := by decide +kernel
theorem dX6_worst_12 : decode cX6_worst 12 = .ok (.iconst 1, 1) := by decide +kernel
theorem dX6_worst_13 : decode cX6_worst 13 = .ok (.invokestatic 104, 3) := by decide +kernel
theorem dX6_worst_16 : decode cX6_worst 16 = .ok (.ifCond .ne 10, 3) := by decide +kernel
theorem dX6_worst_19 : decode cX6_worst 19 = .ok (.aload_n 0, 1) := by decide +kernel
theorem dX6_worst_20 : decode cX6_worst 20 = .ok (.invokevirtual 108, 3) := by decide +kernel
theorem dX6_worst_23 : decode cX6_worst 23 = .ok (.ifCond .eq 7, 3) := by decide +kernel
theorem dX6_worst_26 : decode cX6_worst 26 = .ok (.ldc2_w 167, 3) := by decide +kernel
theorem dX6_worst_29 : decode cX6_worst 29 = .ok (.lreturn, 1) := by decide +kernel
theorem dX6_worst_30 : decode cX6_worst 30 = .ok (.aload_n 0, 1) := by decide +kernel
theorem dX6_worst_31 : decode cX6_worst 31 = .ok (.iload_n 1, 1) := by decide +kernel
theorem dX6_worst_32 : decode cX6_worst 32 = .ok (.invokevirtual 134, 3) := by decide +kernel
theorem dX6_worst_35 : decode cX6_worst 35 = .ok (.aload_n 0, 1) := by decide +kernel
theorem dX6_worst_36 : decode cX6_worst 36 = .ok (.getfield 23, 3) := by decide +kernel
theorem dX6_worst_39 : decode cX6_worst 39 = .ok (.iconst 0, 1) := by decide +kernel
theorem dX6_worst_40 : decode cX6_worst 40 = .ok (.iload_n 1, 1) := by decide +kernel
theorem dX6_worst_41 : decode cX6_worst 41 = .ok (.invokevirtual 169, 3) := by decide +kernel
theorem dX6_worst_44 : decode cX6_worst 44 = .ok (.istore_n 3, 1) := by decide +kernel
theorem dX6_worst_45 : decode cX6_worst 45 = .ok (.aload_n 0, 1) := by decide +kernel
theorem dX6_worst_46 : decode cX6_worst 46 = .ok (.getfield 12, 3) := by decide +kernel
theorem dX6_worst_49 : decode cX6_worst 49 = .ok (.getfield 82, 3) := by decide +kernel
theorem dX6_worst_52 : decode cX6_worst 52 = .ok (.iconst 0, 1) := by decide +kernel
theorem dX6_worst_53 : decode cX6_worst 53 = .ok (.aaload, 1) := by decide +kernel
theorem dX6_worst_54 : decode cX6_worst 54 = .ok (.getfield 94, 3) := by decide +kernel
theorem dX6_worst_57 : decode cX6_worst 57 = .ok (.iload_n 1, 1) := by decide +kernel
theorem dX6_worst_58 : decode cX6_worst 58 = .ok (.imul, 1) := by decide +kernel
theorem dX6_worst_59 : decode cX6_worst 59 = .ok (.istore 4, 2) := by decide +kernel
theorem dX6_worst_61 : decode cX6_worst 61 = .ok (.iconst 1, 1) := by decide +kernel
theorem dX6_worst_62 : decode cX6_worst 62 = .ok (.istore 5, 2) := by decide +kernel
theorem dX6_worst_64 : decode cX6_worst 64 = .ok (.iload 5, 2) := by decide +kernel
theorem dX6_worst_66 : decode cX6_worst 66 = .ok (.aload_n 0, 1) := by decide +kernel
theorem dX6_worst_67 : decode cX6_worst 67 = .ok (.getfield 12, 3) := by decide +kernel
theorem dX6_worst_70 : decode cX6_worst 70 = .ok (.getfield 76, 3) := by decide +kernel
theorem dX6_worst_73 : decode cX6_worst 73 = .ok (.if_icmp .ge 57, 3) := by decide +kernel
theorem dX6_worst_76 : decode cX6_worst 76 = .ok (.aload_n 0, 1) := by decide +kernel
theorem dX6_worst_77 : decode cX6_worst 77 = .ok (.getfield 23, 3) := by decide +kernel
theorem dX6_worst_80 : decode cX6_worst 80 = .ok (.iload 5, 2) := by decide +kernel
theorem dX6_worst_82 : decode cX6_worst 82 = .ok (.iload_n 1, 1) := by decide +kernel
theorem dX6_worst_83 : decode cX6_worst 83 = .ok (.invokevirtual 169, 3) := by decide +kernel
theorem dX6_worst_86 : decode cX6_worst 86 = .ok (.istore 6, 2) := by decide +kernel
theorem dX6_worst_88 : decode cX6_worst 88 = .ok (.aload_n 0, 1) := by decide +kernel
theorem dX6_worst_89 : decode cX6_worst 89 = .ok (.getfield 12, 3) := by decide +kernel
theorem dX6_worst_92 : decode cX6_worst 92 = .ok (.getfield 82, 3) := by decide +kernel
theorem dX6_worst_95 : decode cX6_worst 95 = .ok (.iload 5, 2) := by decide +kernel
theorem dX6_worst_97 : decode cX6_worst 97 = .ok (.aaload, 1) := by decide +kernel
theorem dX6_worst_98 : decode cX6_worst 98 = .ok (.getfield 94, 3) := by decide +kernel
theorem dX6_worst_101 : decode cX6_worst 101 = .ok (.iload_n 1, 1) := by decide +kernel
theorem dX6_worst_102 : decode cX6_worst 102 = .ok (.imul, 1) := by decide +kernel
theorem dX6_worst_103 : decode cX6_worst 103 = .ok (.istore 7, 2) := by decide +kernel
theorem dX6_worst_105 : decode cX6_worst 105 = .ok (.iload 6, 2) := by decide +kernel
theorem dX6_worst_107 : decode cX6_worst 107 = .ok (.iload 4, 2) := by decide +kernel
theorem dX6_worst_109 : decode cX6_worst 109 = .ok (.imul, 1) := by decide +kernel
theorem dX6_worst_110 : decode cX6_worst 110 = .ok (.iload_n 3, 1) := by decide +kernel
theorem dX6_worst_111 : decode cX6_worst 111 = .ok (.iload 7, 2) := by decide +kernel
theorem dX6_worst_113 : decode cX6_worst 113 = .ok (.imul, 1) := by decide +kernel
theorem dX6_worst_114 : decode cX6_worst 114 = .ok (.if_icmp .ge 10, 3) := by decide +kernel
theorem dX6_worst_117 : decode cX6_worst 117 = .ok (.iload 6, 2) := by decide +kernel
theorem dX6_worst_119 : decode cX6_worst 119 = .ok (.istore_n 3, 1) := by decide +kernel
theorem dX6_worst_120 : decode cX6_worst 120 = .ok (.iload 7, 2) := by decide +kernel
theorem dX6_worst_122 : decode cX6_worst 122 = .ok (.istore 4, 2) := by decide +kernel
theorem dX6_worst_124 : decode cX6_worst 124 = .ok (.iinc 5 1, 3) := by decide +kernel
theorem dX6_worst_127 : decode cX6_worst 127 = .ok (.goto (-63), 3) := by decide +kernel
theorem dX6_worst_130 : decode cX6_worst 130 = .ok (.iload_n 3, 1) := by decide +kernel
theorem dX6_worst_131 : decode cX6_worst 131 = .ok (.iload 4, 2) := by decide +kernel
theorem dX6_worst_133 : decode cX6_worst 133 = .ok (.iload_n 2, 1) := by decide +kernel
theorem dX6_worst_134 : decode cX6_worst 134 = .ok (.invokestatic 172, 3) := by decide +kernel
theorem dX6_worst_137 : decode cX6_worst 137 = .ok (.lreturn, 1) := by decide +kernel
theorem dX6_risk_0 : decode cX6_risk 0 = .ok (.aload_n 0, 1) := by decide +kernel
theorem dX6_risk_1 : decode cX6_risk 1 = .ok (.iload_n 1, 1) := by decide +kernel
theorem dX6_risk_2 : decode cX6_risk 2 = .ok (.invokevirtual 79, 3) := by decide +kernel
theorem dX6_risk_5 : decode cX6_risk 5 = .ok (.ifCond .ne 23, 3) := by decide +kernel
theorem dX6_risk_8 : decode cX6_risk 8 = .ok (.iconst 0, 1) := by decide +kernel
theorem dX6_risk_9 : decode cX6_risk 9 = .ok (.iload_n 2, 1) := by decide +kernel
theorem dX6_risk_10 : decode cX6_risk 10 = .ok (.bipush 6, 2) := by decide +kernel
theorem dX6_risk_12 : decode cX6_risk 12 = .ok (.invokestatic 104, 3) := by decide +kernel
theorem dX6_risk_15 : decode cX6_risk 15 = .ok (.ifCond .ne 13, 3) := by decide +kernel
theorem dX6_risk_18 : decode cX6_risk 18 = .ok (.iconst 0, 1) := by decide +kernel
theorem dX6_risk_19 : decode cX6_risk 19 = .ok (.iload 5, 2) := by decide +kernel
theorem dX6_risk_21 : decode cX6_risk 21 = .ok (.iconst 1, 1) := by decide +kernel
theorem dX6_risk_22 : decode cX6_risk 22 = .ok (.invokestatic 104, 3) := by decide +kernel
theorem dX6_risk_25 : decode cX6_risk 25 = .ok (.ifCond .eq 7, 3) := by decide +kernel
theorem dX6_risk_28 : decode cX6_risk 28 = .ok (.ldc2_w 167, 3) := by decide +kernel
theorem dX6_risk_31 : decode cX6_risk 31 = .ok (.lreturn, 1) := by decide +kernel
theorem dX6_risk_32 : decode cX6_risk 32 = .ok (.iconst 0, 1) := by decide +kernel
theorem dX6_risk_33 : decode cX6_risk 33 = .ok (.iload_n 3, 1) := by decide +kernel
theorem dX6_risk_34 : decode cX6_risk 34 = .ok (.bipush 99, 2) := by decide +kernel
theorem dX6_risk_36 : decode cX6_risk 36 = .ok (.invokestatic 104, 3) := by decide +kernel
theorem dX6_risk_39 : decode cX6_risk 39 = .ok (.ifCond .ne 14, 3) := by decide +kernel
theorem dX6_risk_42 : decode cX6_risk 42 = .ok (.iconst 0, 1) := by decide +kernel
theorem dX6_risk_43 : decode cX6_risk 43 = .ok (.iload 4, 2) := by decide +kernel
theorem dX6_risk_45 : decode cX6_risk 45 = .ok (.bipush 99, 2) := by decide +kernel
theorem dX6_risk_47 : decode cX6_risk 47 = .ok (.invokestatic 104, 3) := by decide +kernel
theorem dX6_risk_50 : decode cX6_risk 50 = .ok (.ifCond .eq 7, 3) := by decide +kernel
theorem dX6_risk_53 : decode cX6_risk 53 = .ok (.ldc2_w 167, 3) := by decide +kernel
theorem dX6_risk_56 : decode cX6_risk 56 = .ok (.lreturn, 1) := by decide +kernel
theorem dX6_risk_57 : decode cX6_risk 57 = .ok (.iconst 1, 1) := by decide +kernel
theorem dX6_risk_58 : decode cX6_risk 58 = .ok (.iload_n 2, 1) := by decide +kernel
theorem dX6_risk_59 : decode cX6_risk 59 = .ok (.ishl, 1) := by decide +kernel
theorem dX6_risk_60 : decode cX6_risk 60 = .ok (.istore 6, 2) := by decide +kernel
theorem dX6_risk_62 : decode cX6_risk 62 = .ok (.iconst 0, 1) := by decide +kernel
theorem dX6_risk_63 : decode cX6_risk 63 = .ok (.istore 7, 2) := by decide +kernel
theorem dX6_risk_65 : decode cX6_risk 65 = .ok (.aload_n 0, 1) := by decide +kernel
theorem dX6_risk_66 : decode cX6_risk 66 = .ok (.getfield 23, 3) := by decide +kernel
theorem dX6_risk_69 : decode cX6_risk 69 = .ok (.aload_n 0, 1) := by decide +kernel
theorem dX6_risk_70 : decode cX6_risk 70 = .ok (.getfield 12, 3) := by decide +kernel
theorem dX6_risk_73 : decode cX6_risk 73 = .ok (.getfield 115, 3) := by decide +kernel
theorem dX6_risk_76 : decode cX6_risk 76 = .ok (.aload_n 0, 1) := by decide +kernel
theorem dX6_risk_77 : decode cX6_risk 77 = .ok (.getfield 12, 3) := by decide +kernel
theorem dX6_risk_80 : decode cX6_risk 80 = .ok (.getfield 125, 3) := by decide +kernel
theorem dX6_risk_83 : decode cX6_risk 83 = .ok (.invokevirtual 157, 3) := by decide +kernel
theorem dX6_risk_86 : decode cX6_risk 86 = .ok (.iconst 0, 1) := by decide +kernel
theorem dX6_risk_87 : decode cX6_risk 87 = .ok (.istore 8, 2) := by decide +kernel
theorem dX6_risk_89 : decode cX6_risk 89 = .ok (.iload 8, 2) := by decide +kernel
theorem dX6_risk_91 : decode cX6_risk 91 = .ok (.iload 6, 2) := by decide +kernel
theorem dX6_risk_93 : decode cX6_risk 93 = .ok (.if_icmp .ge 66, 3) := by decide +kernel
theorem dX6_risk_96 : decode cX6_risk 96 = .ok (.iconst 0, 1) := by decide +kernel
theorem dX6_risk_97 : decode cX6_risk 97 = .ok (.istore 9, 2) := by decide +kernel
theorem dX6_risk_99 : decode cX6_risk 99 = .ok (.iload 9, 2) := by decide +kernel
theorem dX6_risk_101 : decode cX6_risk 101 = .ok (.iload_n 2, 1) := by decide +kernel
theorem dX6_risk_102 : decode cX6_risk 102 = .ok (.if_icmp .ge 34, 3) := by decide +kernel
theorem dX6_risk_105 : decode cX6_risk 105 = .ok (.aload_n 0, 1) := by decide +kernel
theorem dX6_risk_106 : decode cX6_risk 106 = .ok (.getfield 23, 3) := by decide +kernel
theorem dX6_risk_109 : decode cX6_risk 109 = .ok (.iload 9, 2) := by decide +kernel
theorem dX6_risk_111 : decode cX6_risk 111 = .ok (.iload 8, 2) := by decide +kernel
theorem dX6_risk_113 : decode cX6_risk 113 = .ok (.iload 9, 2) := by decide +kernel
theorem dX6_risk_115 : decode cX6_risk 115 = .ok (.ishr, 1) := by decide +kernel
theorem dX6_risk_116 : decode cX6_risk 116 = .ok (.iconst 1, 1) := by decide +kernel
theorem dX6_risk_117 : decode cX6_risk 117 = .ok (.iand, 1) := by decide +kernel
theorem dX6_risk_118 : decode cX6_risk 118 = .ok (.ifCond .ne 7, 3) := by decide +kernel
theorem dX6_risk_121 : decode cX6_risk 121 = .ok (.iload_n 3, 1) := by decide +kernel
theorem dX6_risk_122 : decode cX6_risk 122 = .ok (.goto 5, 3) := by decide +kernel
theorem dX6_risk_125 : decode cX6_risk 125 = .ok (.iload 4, 2) := by decide +kernel
theorem dX6_risk_127 : decode cX6_risk 127 = .ok (.invokevirtual 176, 3) := by decide +kernel
theorem dX6_risk_130 : decode cX6_risk 130 = .ok (.iinc 9 1, 3) := by decide +kernel
theorem dX6_risk_133 : decode cX6_risk 133 = .ok (.goto (-34), 3) := by decide +kernel
theorem dX6_risk_136 : decode cX6_risk 136 = .ok (.aload_n 0, 1) := by decide +kernel
theorem dX6_risk_137 : decode cX6_risk 137 = .ok (.getfield 23, 3) := by decide +kernel
theorem dX6_risk_140 : decode cX6_risk 140 = .ok (.iload_n 1, 1) := by decide +kernel
theorem dX6_risk_141 : decode cX6_risk 141 = .ok (.iload_n 2, 1) := by decide +kernel
theorem dX6_risk_142 : decode cX6_risk 142 = .ok (.invokevirtual 151, 3) := by decide +kernel
theorem dX6_risk_145 : decode cX6_risk 145 = .ok (.bipush (-9), 2) := by decide +kernel
theorem dX6_risk_147 : decode cX6_risk 147 = .ok (.if_icmp .eq 6, 3) := by decide +kernel
theorem dX6_risk_150 : decode cX6_risk 150 = .ok (.iinc 7 1, 3) := by decide +kernel
theorem dX6_risk_153 : decode cX6_risk 153 = .ok (.iinc 8 1, 3) := by decide +kernel
theorem dX6_risk_156 : decode cX6_risk 156 = .ok (.goto (-67), 3) := by decide +kernel
theorem dX6_risk_159 : decode cX6_risk 159 = .ok (.iload 7, 2) := by decide +kernel
theorem dX6_risk_161 : decode cX6_risk 161 = .ok (.iload 6, 2) := by decide +kernel
theorem dX6_risk_163 : decode cX6_risk 163 = .ok (.iload 5, 2) := by decide +kernel
theorem dX6_risk_165 : decode cX6_risk 165 = .ok (.invokestatic 172, 3) := by decide +kernel
theorem dX6_risk_168 : decode cX6_risk 168 = .ok (.lreturn, 1) := by decide +kernel
theorem dX6_mark_0 : decode cX6_mark 0 = .ok (.iconst 0, 1) := by decide +kernel
theorem dX6_mark_1 : decode cX6_mark 1 = .ok (.iload_n 1, 1) := by decide +kernel
theorem dX6_mark_2 : decode cX6_mark 2 = .ok (.bipush 10, 2) := by decide +kernel
theorem dX6_mark_4 : decode cX6_mark 4 = .ok (.invokestatic 104, 3) := by decide +kernel
theorem dX6_mark_7 : decode cX6_mark 7 = .ok (.ifCond .eq 5, 3) := by decide +kernel
theorem dX6_mark_10 : decode cX6_mark 10 = .ok (.iconst (-1), 1) := by decide +kernel
theorem dX6_mark_11 : decode cX6_mark 11 = .ok (.ireturn, 1) := by decide +kernel
theorem dX6_mark_12 : decode cX6_mark 12 = .ok (.iconst 0, 1) := by decide +kernel
theorem dX6_mark_13 : decode cX6_mark 13 = .ok (.iload_n 2, 1) := by decide +kernel
theorem dX6_mark_14 : decode cX6_mark 14 = .ok (.bipush 99, 2) := by decide +kernel
theorem dX6_mark_16 : decode cX6_mark 16 = .ok (.invokestatic 104, 3) := by decide +kernel
theorem dX6_mark_19 : decode cX6_mark 19 = .ok (.ifCond .eq 6, 3) := by decide +kernel
theorem dX6_mark_22 : decode cX6_mark 22 = .ok (.bipush (-2), 2) := by decide +kernel
theorem dX6_mark_24 : decode cX6_mark 24 = .ok (.ireturn, 1) := by decide +kernel
theorem dX6_mark_25 : decode cX6_mark 25 = .ok (.aload_n 0, 1) := by decide +kernel
theorem dX6_mark_26 : decode cX6_mark 26 = .ok (.invokevirtual 108, 3) := by decide +kernel
theorem dX6_mark_29 : decode cX6_mark 29 = .ok (.ifCond .eq 6, 3) := by decide +kernel
theorem dX6_mark_32 : decode cX6_mark 32 = .ok (.bipush (-3), 2) := by decide +kernel
theorem dX6_mark_34 : decode cX6_mark 34 = .ok (.ireturn, 1) := by decide +kernel
theorem dX6_mark_35 : decode cX6_mark 35 = .ok (.aload_n 0, 1) := by decide +kernel
theorem dX6_mark_36 : decode cX6_mark 36 = .ok (.getfield 30, 3) := by decide +kernel
theorem dX6_mark_39 : decode cX6_mark 39 = .ok (.getfield 73, 3) := by decide +kernel
theorem dX6_mark_42 : decode cX6_mark 42 = .ok (.bipush 8, 2) := by decide +kernel
theorem dX6_mark_44 : decode cX6_mark 44 = .ok (.if_icmp .lt 6, 3) := by decide +kernel
theorem dX6_mark_47 : decode cX6_mark 47 = .ok (.bipush (-4), 2) := by decide +kernel
theorem dX6_mark_49 : decode cX6_mark 49 = .ok (.ireturn, 1) := by decide +kernel
theorem dX6_mark_50 : decode cX6_mark 50 = .ok (.aload_n 0, 1) := by decide +kernel
theorem dX6_mark_51 : decode cX6_mark 51 = .ok (.getfield 30, 3) := by decide +kernel
theorem dX6_mark_54 : decode cX6_mark 54 = .ok (.iload_n 1, 1) := by decide +kernel
theorem dX6_mark_55 : decode cX6_mark 55 = .ok (.iload_n 2, 1) := by decide +kernel
theorem dX6_mark_56 : decode cX6_mark 56 = .ok (.invokevirtual 179, 3) := by decide +kernel
theorem dX6_mark_59 : decode cX6_mark 59 = .ok (.ireturn, 1) := by decide +kernel
theorem dX6_back_0 : decode cX6_back 0 = .ok (.iconst 0, 1) := by decide +kernel
theorem dX6_back_1 : decode cX6_back 1 = .ok (.iload_n 1, 1) := by decide +kernel
theorem dX6_back_2 : decode cX6_back 2 = .ok (.aload_n 0, 1) := by decide +kernel
theorem dX6_back_3 : decode cX6_back 3 = .ok (.getfield 30, 3) := by decide +kernel
theorem dX6_back_6 : decode cX6_back 6 = .ok (.getfield 73, 3) := by decide +kernel
theorem dX6_back_9 : decode cX6_back 9 = .ok (.invokestatic 104, 3) := by decide +kernel
theorem dX6_back_12 : decode cX6_back 12 = .ok (.ifCond .eq 6, 3) := by decide +kernel
theorem dX6_back_15 : decode cX6_back 15 = .ok (.bipush (-2), 2) := by decide +kernel
theorem dX6_back_17 : decode cX6_back 17 = .ok (.ireturn, 1) := by decide +kernel
theorem dX6_back_18 : decode cX6_back 18 = .ok (.aload_n 0, 1) := by decide +kernel
theorem dX6_back_19 : decode cX6_back 19 = .ok (.getfield 30, 3) := by decide +kernel
theorem dX6_back_22 : decode cX6_back 22 = .ok (.dup, 1) := by decide +kernel
theorem dX6_back_23 : decode cX6_back 23 = .ok (.getfield 73, 3) := by decide +kernel
theorem dX6_back_26 : decode cX6_back 26 = .ok (.iload_n 1, 1) := by decide +kernel
theorem dX6_back_27 : decode cX6_back 27 = .ok (.isub, 1) := by decide +kernel
theorem dX6_back_28 : decode cX6_back 28 = .ok (.putfield 73, 3) := by decide +kernel
theorem dX6_back_31 : decode cX6_back 31 = .ok (.aload_n 0, 1) := by decide +kernel
theorem dX6_back_32 : decode cX6_back 32 = .ok (.getfield 30, 3) := by decide +kernel
theorem dX6_back_35 : decode cX6_back 35 = .ok (.getfield 73, 3) := by decide +kernel
theorem dX6_back_38 : decode cX6_back 38 = .ok (.ireturn, 1) := by decide +kernel
theorem dX6_rains_0 : decode cX6_rains 0 = .ok (.iload_n 1, 1) := by decide +kernel
theorem dX6_rains_1 : decode cX6_rains 1 = .ok (.invokestatic 118, 3) := by decide +kernel
theorem dX6_rains_4 : decode cX6_rains 4 = .ok (.ifCond .ne 8, 3) := by decide +kernel
theorem dX6_rains_7 : decode cX6_rains 7 = .ok (.iload_n 2, 1) := by decide +kernel
theorem dX6_rains_8 : decode cX6_rains 8 = .ok (.iconst (-1), 1) := by decide +kernel
theorem dX6_rains_9 : decode cX6_rains 9 = .ok (.if_icmp .ge 5, 3) := by decide +kernel
theorem dX6_rains_12 : decode cX6_rains 12 = .ok (.iconst (-1), 1) := by decide +kernel
theorem dX6_rains_13 : decode cX6_rains 13 = .ok (.ireturn, 1) := by decide +kernel
theorem dX6_rains_14 : decode cX6_rains 14 = .ok (.aload_n 0, 1) := by decide +kernel
theorem dX6_rains_15 : decode cX6_rains 15 = .ok (.invokevirtual 108, 3) := by decide +kernel
theorem dX6_rains_18 : decode cX6_rains 18 = .ok (.ifCond .eq 6, 3) := by decide +kernel
theorem dX6_rains_21 : decode cX6_rains 21 = .ok (.bipush (-3), 2) := by decide +kernel
theorem dX6_rains_23 : decode cX6_rains 23 = .ok (.ireturn, 1) := by decide +kernel
theorem dX6_rains_24 : decode cX6_rains 24 = .ok (.aload_n 0, 1) := by decide +kernel
theorem dX6_rains_25 : decode cX6_rains 25 = .ok (.iload_n 1, 1) := by decide +kernel
theorem dX6_rains_26 : decode cX6_rains 26 = .ok (.invokevirtual 134, 3) := by decide +kernel
theorem dX6_rains_29 : decode cX6_rains 29 = .ok (.iconst 0, 1) := by decide +kernel
theorem dX6_rains_30 : decode cX6_rains 30 = .ok (.istore_n 3, 1) := by decide +kernel
theorem dX6_rains_31 : decode cX6_rains 31 = .ok (.iconst 0, 1) := by decide +kernel
theorem dX6_rains_32 : decode cX6_rains 32 = .ok (.istore 4, 2) := by decide +kernel
theorem dX6_rains_34 : decode cX6_rains 34 = .ok (.iload 4, 2) := by decide +kernel
theorem dX6_rains_36 : decode cX6_rains 36 = .ok (.bipush 99, 2) := by decide +kernel
theorem dX6_rains_38 : decode cX6_rains 38 = .ok (.if_icmp .gt 38, 3) := by decide +kernel
theorem dX6_rains_41 : decode cX6_rains 41 = .ok (.aload_n 0, 1) := by decide +kernel
theorem dX6_rains_42 : decode cX6_rains 42 = .ok (.getfield 23, 3) := by decide +kernel
theorem dX6_rains_45 : decode cX6_rains 45 = .ok (.iload_n 1, 1) := by decide +kernel
theorem dX6_rains_46 : decode cX6_rains 46 = .ok (.iload 4, 2) := by decide +kernel
theorem dX6_rains_48 : decode cX6_rains 48 = .ok (.invokevirtual 176, 3) := by decide +kernel
theorem dX6_rains_51 : decode cX6_rains 51 = .ok (.aload_n 0, 1) := by decide +kernel
theorem dX6_rains_52 : decode cX6_rains 52 = .ok (.iload_n 1, 1) := by decide +kernel
theorem dX6_rains_53 : decode cX6_rains 53 = .ok (.invokevirtual 182, 3) := by decide +kernel
theorem dX6_rains_56 : decode cX6_rains 56 = .ok (.ifCond .eq 14, 3) := by decide +kernel
theorem dX6_rains_59 : decode cX6_rains 59 = .ok (.iload_n 3, 1) := by decide +kernel
theorem dX6_rains_60 : decode cX6_rains 60 = .ok (.iload_n 2, 1) := by decide +kernel
theorem dX6_rains_61 : decode cX6_rains 61 = .ok (.if_icmp .ne 6, 3) := by decide +kernel
theorem dX6_rains_64 : decode cX6_rains 64 = .ok (.iload 4, 2) := by decide +kernel
theorem dX6_rains_66 : decode cX6_rains 66 = .ok (.ireturn, 1) := by decide +kernel
theorem dX6_rains_67 : decode cX6_rains 67 = .ok (.iinc 3 1, 3) := by decide +kernel
theorem dX6_rains_70 : decode cX6_rains 70 = .ok (.iinc 4 1, 3) := by decide +kernel
theorem dX6_rains_73 : decode cX6_rains 73 = .ok (.goto (-39), 3) := by decide +kernel
theorem dX6_rains_76 : decode cX6_rains 76 = .ok (.iload_n 2, 1) := by decide +kernel
theorem dX6_rains_77 : decode cX6_rains 77 = .ok (.iconst (-1), 1) := by decide +kernel
theorem dX6_rains_78 : decode cX6_rains 78 = .ok (.if_icmp .ne 7, 3) := by decide +kernel
theorem dX6_rains_81 : decode cX6_rains 81 = .ok (.iload_n 3, 1) := by decide +kernel
theorem dX6_rains_82 : decode cX6_rains 82 = .ok (.goto 5, 3) := by decide +kernel
theorem dX6_rains_85 : decode cX6_rains 85 = .ok (.bipush (-9), 2) := by decide +kernel
theorem dX6_rains_87 : decode cX6_rains 87 = .ok (.ireturn, 1) := by decide +kernel
theorem dX6_thief_0 : decode cX6_thief 0 = .ok (.iload_n 1, 1) := by decide +kernel
theorem dX6_thief_1 : decode cX6_thief 1 = .ok (.invokestatic 118, 3) := by decide +kernel
theorem dX6_thief_4 : decode cX6_thief 4 = .ok (.ifCond .eq 5, 3) := by decide +kernel
theorem dX6_thief_7 : decode cX6_thief 7 = .ok (.iconst (-1), 1) := by decide +kernel
theorem dX6_thief_8 : decode cX6_thief 8 = .ok (.ireturn, 1) := by decide +kernel
theorem dX6_thief_9 : decode cX6_thief 9 = .ok (.iconst 1, 1) := by decide +kernel
theorem dX6_thief_10 : decode cX6_thief 10 = .ok (.iload_n 2, 1) := by decide +kernel
theorem dX6_thief_11 : decode cX6_thief 11 = .ok (.bipush 9, 2) := by decide +kernel
theorem dX6_thief_13 : decode cX6_thief 13 = .ok (.invokestatic 104, 3) := by decide +kernel
theorem dX6_thief_16 : decode cX6_thief 16 = .ok (.ifCond .eq 6, 3) := by decide +kernel
theorem dX6_thief_19 : decode cX6_thief 19 = .ok (.bipush (-2), 2) := by decide +kernel
theorem dX6_thief_21 : decode cX6_thief 21 = .ok (.ireturn, 1) := by decide +kernel
theorem dX6_thief_22 : decode cX6_thief 22 = .ok (.aload_n 0, 1) := by decide +kernel
theorem dX6_thief_23 : decode cX6_thief 23 = .ok (.invokevirtual 108, 3) := by decide +kernel
theorem dX6_thief_26 : decode cX6_thief 26 = .ok (.ifCond .eq 6, 3) := by decide +kernel
theorem dX6_thief_29 : decode cX6_thief 29 = .ok (.bipush (-3), 2) := by decide +kernel
theorem dX6_thief_31 : decode cX6_thief 31 = .ok (.ireturn, 1) := by decide +kernel
theorem dX6_thief_32 : decode cX6_thief 32 = .ok (.aload_n 0, 1) := by decide +kernel
theorem dX6_thief_33 : decode cX6_thief 33 = .ok (.iload_n 1, 1) := by decide +kernel
theorem dX6_thief_34 : decode cX6_thief 34 = .ok (.iconst 1, 1) := by decide +kernel
theorem dX6_thief_35 : decode cX6_thief 35 = .ok (.iadd, 1) := by decide +kernel
theorem dX6_thief_36 : decode cX6_thief 36 = .ok (.invokevirtual 134, 3) := by decide +kernel
theorem dX6_thief_39 : decode cX6_thief 39 = .ok (.aload_n 0, 1) := by decide +kernel
theorem dX6_thief_40 : decode cX6_thief 40 = .ok (.getfield 23, 3) := by decide +kernel
theorem dX6_thief_43 : decode cX6_thief 43 = .ok (.getfield 142, 3) := by decide +kernel
theorem dX6_thief_46 : decode cX6_thief 46 = .ok (.iload_n 1, 1) := by decide +kernel
theorem dX6_thief_47 : decode cX6_thief 47 = .ok (.iconst 1, 1) := by decide +kernel
theorem dX6_thief_48 : decode cX6_thief 48 = .ok (.iadd, 1) := by decide +kernel
theorem dX6_thief_49 : decode cX6_thief 49 = .ok (.iaload, 1) := by decide +kernel
theorem dX6_thief_50 : decode cX6_thief 50 = .ok (.istore_n 3, 1) := by decide +kernel
theorem dX6_thief_51 : decode cX6_thief 51 = .ok (.iconst 0, 1) := by decide +kernel
theorem dX6_thief_52 : decode cX6_thief 52 = .ok (.istore 4, 2) := by decide +kernel
theorem dX6_thief_54 : decode cX6_thief 54 = .ok (.iconst 0, 1) := by decide +kernel
theorem dX6_thief_55 : decode cX6_thief 55 = .ok (.istore 5, 2) := by decide +kernel
theorem dX6_thief_57 : decode cX6_thief 57 = .ok (.iload 5, 2) := by decide +kernel
theorem dX6_thief_59 : decode cX6_thief 59 = .ok (.aload_n 0, 1) := by decide +kernel
theorem dX6_thief_60 : decode cX6_thief 60 = .ok (.getfield 12, 3) := by decide +kernel
theorem dX6_thief_63 : decode cX6_thief 63 = .ok (.getfield 76, 3) := by decide +kernel
theorem dX6_thief_66 : decode cX6_thief 66 = .ok (.if_icmp .ge 54, 3) := by decide +kernel
theorem dX6_thief_69 : decode cX6_thief 69 = .ok (.aload_n 0, 1) := by decide +kernel
theorem dX6_thief_70 : decode cX6_thief 70 = .ok (.getfield 12, 3) := by decide +kernel
theorem dX6_thief_73 : decode cX6_thief 73 = .ok (.iload 5, 2) := by decide +kernel
theorem dX6_thief_75 : decode cX6_thief 75 = .ok (.iload_n 3, 1) := by decide +kernel
theorem dX6_thief_76 : decode cX6_thief 76 = .ok (.invokevirtual 185, 3) := by decide +kernel
theorem dX6_thief_79 : decode cX6_thief 79 = .ok (.iload_n 2, 1) := by decide +kernel
theorem dX6_thief_80 : decode cX6_thief 80 = .ok (.if_icmp .lt 34, 3) := by decide +kernel
theorem dX6_thief_83 : decode cX6_thief 83 = .ok (.aload_n 0, 1) := by decide +kernel
theorem dX6_thief_84 : decode cX6_thief 84 = .ok (.getfield 23, 3) := by decide +kernel
theorem dX6_thief_87 : decode cX6_thief 87 = .ok (.getfield 142, 3) := by decide +kernel
theorem dX6_thief_90 : decode cX6_thief 90 = .ok (.iload_n 1, 1) := by decide +kernel
theorem dX6_thief_91 : decode cX6_thief 91 = .ok (.iconst 1, 1) := by decide +kernel
theorem dX6_thief_92 : decode cX6_thief 92 = .ok (.iadd, 1) := by decide +kernel
theorem dX6_thief_93 : decode cX6_thief 93 = .ok (.iload_n 3, 1) := by decide +kernel
theorem dX6_thief_94 : decode cX6_thief 94 = .ok (.iload_n 2, 1) := by decide +kernel
theorem dX6_thief_95 : decode cX6_thief 95 = .ok (.isub, 1) := by decide +kernel
theorem dX6_thief_96 : decode cX6_thief 96 = .ok (.iastore, 1) := by decide +kernel
theorem dX6_thief_97 : decode cX6_thief 97 = .ok (.aload_n 0, 1) := by decide +kernel
theorem dX6_thief_98 : decode cX6_thief 98 = .ok (.iload_n 1, 1) := by decide +kernel
theorem dX6_thief_99 : decode cX6_thief 99 = .ok (.invokevirtual 182, 3) := by decide +kernel
theorem dX6_thief_102 : decode cX6_thief 102 = .ok (.ifCond .eq 12, 3) := by decide +kernel
theorem dX6_thief_105 : decode cX6_thief 105 = .ok (.iload 4, 2) := by decide +kernel
theorem dX6_thief_107 : decode cX6_thief 107 = .ok (.iconst 1, 1) := by decide +kernel
theorem dX6_thief_108 : decode cX6_thief 108 = .ok (.iload 5, 2) := by decide +kernel
theorem dX6_thief_110 : decode cX6_thief 110 = .ok (.ishl, 1) := by decide +kernel
theorem dX6_thief_111 : decode cX6_thief 111 = .ok (.ior, 1) := by decide +kernel
theorem dX6_thief_112 : decode cX6_thief 112 = .ok (.istore 4, 2) := by decide +kernel
theorem dX6_thief_114 : decode cX6_thief 114 = .ok (.iinc 5 1, 3) := by decide +kernel
theorem dX6_thief_117 : decode cX6_thief 117 = .ok (.goto (-60), 3) := by decide +kernel
theorem dX6_thief_120 : decode cX6_thief 120 = .ok (.iload 4, 2) := by decide +kernel
theorem dX6_thief_122 : decode cX6_thief 122 = .ok (.ireturn, 1) := by decide +kernel
theorem dX6_sheet_0 : decode cX6_sheet 0 = .ok (.aload_n 0, 1) := by decide +kernel
theorem dX6_sheet_1 : decode cX6_sheet 1 = .ok (.iconst 0, 1) := by decide +kernel
theorem dX6_sheet_2 : decode cX6_sheet 2 = .ok (.putfield 41, 3) := by decide +kernel
theorem dX6_sheet_5 : decode cX6_sheet 5 = .ok (.iload_n 1, 1) := by decide +kernel
theorem dX6_sheet_6 : decode cX6_sheet 6 = .ok (.invokestatic 45, 3) := by decide +kernel
theorem dX6_sheet_9 : decode cX6_sheet 9 = .ok (.ifCond .eq 5, 3) := by decide +kernel
theorem dX6_sheet_12 : decode cX6_sheet 12 = .ok (.iconst (-1), 1) := by decide +kernel
theorem dX6_sheet_13 : decode cX6_sheet 13 = .ok (.ireturn, 1) := by decide +kernel
theorem dX6_sheet_14 : decode cX6_sheet 14 = .ok (.iload_n 2, 1) := by decide +kernel
theorem dX6_sheet_15 : decode cX6_sheet 15 = .ok (.invokestatic 49, 3) := by decide +kernel
theorem dX6_sheet_18 : decode cX6_sheet 18 = .ok (.ifCond .ne 9, 3) := by decide +kernel
theorem dX6_sheet_21 : decode cX6_sheet 21 = .ok (.iload_n 3, 1) := by decide +kernel
theorem dX6_sheet_22 : decode cX6_sheet 22 = .ok (.bipush 60, 2) := by decide +kernel
theorem dX6_sheet_24 : decode cX6_sheet 24 = .ok (.if_icmp .le 6, 3) := by decide +kernel
theorem dX6_sheet_27 : decode cX6_sheet 27 = .ok (.bipush (-2), 2) := by decide +kernel
theorem dX6_sheet_29 : decode cX6_sheet 29 = .ok (.ireturn, 1) := by decide +kernel
theorem dX6_sheet_30 : decode cX6_sheet 30 = .ok (.iload_n 3, 1) := by decide +kernel
theorem dX6_sheet_31 : decode cX6_sheet 31 = .ok (.ifCond .ge 9, 3) := by decide +kernel
theorem dX6_sheet_34 : decode cX6_sheet 34 = .ok (.aload_n 0, 1) := by decide +kernel
theorem dX6_sheet_35 : decode cX6_sheet 35 = .ok (.iconst 4, 1) := by decide +kernel
theorem dX6_sheet_36 : decode cX6_sheet 36 = .ok (.invokevirtual 60, 3) := by decide +kernel
theorem dX6_sheet_39 : decode cX6_sheet 39 = .ok (.ireturn, 1) := by decide +kernel
theorem dX6_sheet_40 : decode cX6_sheet 40 = .ok (.aload_n 0, 1) := by decide +kernel
theorem dX6_sheet_41 : decode cX6_sheet 41 = .ok (.getfield 36, 3) := by decide +kernel
theorem dX6_sheet_44 : decode cX6_sheet 44 = .ok (.iload_n 1, 1) := by decide +kernel
theorem dX6_sheet_45 : decode cX6_sheet 45 = .ok (.aaload, 1) := by decide +kernel
theorem dX6_sheet_46 : decode cX6_sheet 46 = .ok (.iload_n 2, 1) := by decide +kernel
theorem dX6_sheet_47 : decode cX6_sheet 47 = .ok (.iload_n 3, 1) := by decide +kernel
theorem dX6_sheet_48 : decode cX6_sheet 48 = .ok (.invokevirtual 188, 3) := by decide +kernel
theorem dX6_sheet_51 : decode cX6_sheet 51 = .ok (.iconst 1, 1) := by decide +kernel
theorem dX6_sheet_52 : decode cX6_sheet 52 = .ok (.ireturn, 1) := by decide +kernel
theorem dX6_lose_0 : decode cX6_lose 0 = .ok (.iload_n 1, 1) := by decide +kernel
theorem dX6_lose_1 : decode cX6_lose 1 = .ok (.invokestatic 45, 3) := by decide +kernel
theorem dX6_lose_4 : decode cX6_lose 4 = .ok (.ifCond .eq 5, 3) := by decide +kernel
theorem dX6_lose_7 : decode cX6_lose 7 = .ok (.iconst (-1), 1) := by decide +kernel
theorem dX6_lose_8 : decode cX6_lose 8 = .ok (.ireturn, 1) := by decide +kernel
theorem dX6_lose_9 : decode cX6_lose 9 = .ok (.aload_n 0, 1) := by decide +kernel
theorem dX6_lose_10 : decode cX6_lose 10 = .ok (.getfield 36, 3) := by decide +kernel
theorem dX6_lose_13 : decode cX6_lose 13 = .ok (.iload_n 1, 1) := by decide +kernel
theorem dX6_lose_14 : decode cX6_lose 14 = .ok (.aaload, 1) := by decide +kernel
theorem dX6_lose_15 : decode cX6_lose 15 = .ok (.getfield 191, 3) := by decide +kernel
theorem dX6_lose_18 : decode cX6_lose 18 = .ok (.iconst (-1), 1) := by decide +kernel
theorem dX6_lose_19 : decode cX6_lose 19 = .ok (.if_icmp .ne 5, 3) := by decide +kernel
theorem dX6_lose_22 : decode cX6_lose 22 = .ok (.iconst 0, 1) := by decide +kernel
theorem dX6_lose_23 : decode cX6_lose 23 = .ok (.ireturn, 1) := by decide +kernel
theorem dX6_lose_24 : decode cX6_lose 24 = .ok (.aload_n 0, 1) := by decide +kernel
theorem dX6_lose_25 : decode cX6_lose 25 = .ok (.getfield 36, 3) := by decide +kernel
theorem dX6_lose_28 : decode cX6_lose 28 = .ok (.iload_n 1, 1) := by decide +kernel
theorem dX6_lose_29 : decode cX6_lose 29 = .ok (.aaload, 1) := by decide +kernel
theorem dX6_lose_30 : decode cX6_lose 30 = .ok (.iconst (-1), 1) := by decide +kernel
theorem dX6_lose_31 : decode cX6_lose 31 = .ok (.putfield 191, 3) := by decide +kernel
theorem dX6_lose_34 : decode cX6_lose 34 = .ok (.iconst 1, 1) := by decide +kernel
theorem dX6_lose_35 : decode cX6_lose 35 = .ok (.ireturn, 1) := by decide +kernel
theorem dX6_put_0 : decode cX6_put 0 = .ok (.aload_n 0, 1) := by decide +kernel
theorem dX6_put_1 : decode cX6_put 1 = .ok (.iconst 0, 1) := by decide +kernel
theorem dX6_put_2 : decode cX6_put 2 = .ok (.putfield 41, 3) := by decide +kernel
theorem dX6_put_5 : decode cX6_put 5 = .ok (.iload_n 1, 1) := by decide +kernel
theorem dX6_put_6 : decode cX6_put 6 = .ok (.invokestatic 45, 3) := by decide +kernel
theorem dX6_put_9 : decode cX6_put 9 = .ok (.ifCond .eq 5, 3) := by decide +kernel
theorem dX6_put_12 : decode cX6_put 12 = .ok (.iconst (-1), 1) := by decide +kernel
theorem dX6_put_13 : decode cX6_put 13 = .ok (.ireturn, 1) := by decide +kernel
theorem dX6_put_14 : decode cX6_put 14 = .ok (.aload_n 0, 1) := by decide +kernel
theorem dX6_put_15 : decode cX6_put 15 = .ok (.getfield 36, 3) := by decide +kernel
theorem dX6_put_18 : decode cX6_put 18 = .ok (.iload_n 1, 1) := by decide +kernel
theorem dX6_put_19 : decode cX6_put 19 = .ok (.aaload, 1) := by decide +kernel
theorem dX6_put_20 : decode cX6_put 20 = .ok (.astore 4, 2) := by decide +kernel
theorem dX6_put_22 : decode cX6_put 22 = .ok (.aload 4, 2) := by decide +kernel
theorem dX6_put_24 : decode cX6_put 24 = .ok (.getfield 191, 3) := by decide +kernel
theorem dX6_put_27 : decode cX6_put 27 = .ok (.iconst (-1), 1) := by decide +kernel
theorem dX6_put_28 : decode cX6_put 28 = .ok (.if_icmp .ne 9, 3) := by decide +kernel
theorem dX6_put_31 : decode cX6_put 31 = .ok (.aload_n 0, 1) := by decide +kernel
theorem dX6_put_32 : decode cX6_put 32 = .ok (.iconst 1, 1) := by decide +kernel
theorem dX6_put_33 : decode cX6_put 33 = .ok (.invokevirtual 60, 3) := by decide +kernel
theorem dX6_put_36 : decode cX6_put 36 = .ok (.ireturn, 1) := by decide +kernel
theorem dX6_put_37 : decode cX6_put 37 = .ok (.aload 4, 2) := by decide +kernel
theorem dX6_put_39 : decode cX6_put 39 = .ok (.iload_n 2, 1) := by decide +kernel
theorem dX6_put_40 : decode cX6_put 40 = .ok (.iconst 1, 1) := by decide +kernel
theorem dX6_put_41 : decode cX6_put 41 = .ok (.invokevirtual 56, 3) := by decide +kernel
theorem dX6_put_44 : decode cX6_put 44 = .ok (.ifCond .ne 9, 3) := by decide +kernel
theorem dX6_put_47 : decode cX6_put 47 = .ok (.aload_n 0, 1) := by decide +kernel
theorem dX6_put_48 : decode cX6_put 48 = .ok (.iconst 3, 1) := by decide +kernel
theorem dX6_put_49 : decode cX6_put 49 = .ok (.invokevirtual 60, 3) := by decide +kernel
theorem dX6_put_52 : decode cX6_put 52 = .ok (.ireturn, 1) := by decide +kernel
theorem dX6_put_53 : decode cX6_put 53 = .ok (.aload 4, 2) := by decide +kernel
theorem dX6_put_55 : decode cX6_put 55 = .ok (.getfield 194, 3) := by decide +kernel
theorem dX6_put_58 : decode cX6_put 58 = .ok (.iload_n 2, 1) := by decide +kernel
theorem dX6_put_59 : decode cX6_put 59 = .ok (.aload 4, 2) := by decide +kernel
theorem dX6_put_61 : decode cX6_put 61 = .ok (.iload_n 3, 1) := by decide +kernel
theorem dX6_put_62 : decode cX6_put 62 = .ok (.invokevirtual 197, 3) := by decide +kernel
theorem dX6_put_65 : decode cX6_put 65 = .ok (.iastore, 1) := by decide +kernel
theorem dX6_put_66 : decode cX6_put 66 = .ok (.iconst 1, 1) := by decide +kernel
theorem dX6_put_67 : decode cX6_put 67 = .ok (.ireturn, 1) := by decide +kernel
theorem dX6_cell_0 : decode cX6_cell 0 = .ok (.aload_n 0, 1) := by decide +kernel
theorem dX6_cell_1 : decode cX6_cell 1 = .ok (.iconst 0, 1) := by decide +kernel
theorem dX6_cell_2 : decode cX6_cell 2 = .ok (.putfield 41, 3) := by decide +kernel
theorem dX6_cell_5 : decode cX6_cell 5 = .ok (.iload_n 1, 1) := by decide +kernel
theorem dX6_cell_6 : decode cX6_cell 6 = .ok (.invokestatic 45, 3) := by decide +kernel
theorem dX6_cell_9 : decode cX6_cell 9 = .ok (.ifCond .ne 10, 3) := by decide +kernel
theorem dX6_cell_12 : decode cX6_cell 12 = .ok (.iload_n 3, 1) := by decide +kernel
theorem dX6_cell_13 : decode cX6_cell 13 = .ok (.invokestatic 49, 3) := by decide +kernel
theorem dX6_cell_16 : decode cX6_cell 16 = .ok (.ifCond .eq 7, 3) := by decide +kernel
theorem dX6_cell_19 : decode cX6_cell 19 = .ok (.ldc2_w 167, 3) := by decide +kernel
theorem dX6_cell_22 : decode cX6_cell 22 = .ok (.lreturn, 1) := by decide +kernel
theorem dX6_cell_23 : decode cX6_cell 23 = .ok (.aload_n 0, 1) := by decide +kernel
theorem dX6_cell_24 : decode cX6_cell 24 = .ok (.getfield 36, 3) := by decide +kernel
theorem dX6_cell_27 : decode cX6_cell 27 = .ok (.iload_n 1, 1) := by decide +kernel
theorem dX6_cell_28 : decode cX6_cell 28 = .ok (.aaload, 1) := by decide +kernel
theorem dX6_cell_29 : decode cX6_cell 29 = .ok (.astore 4, 2) := by decide +kernel
theorem dX6_cell_31 : decode cX6_cell 31 = .ok (.aload 4, 2) := by decide +kernel
theorem dX6_cell_33 : decode cX6_cell 33 = .ok (.iload_n 3, 1) := by decide +kernel
theorem dX6_cell_34 : decode cX6_cell 34 = .ok (.invokevirtual 52, 3) := by decide +kernel
theorem dX6_cell_37 : decode cX6_cell 37 = .ok (.istore 5, 2) := by decide +kernel
theorem dX6_cell_39 : decode cX6_cell 39 = .ok (.iload 5, 2) := by decide +kernel
theorem dX6_cell_41 : decode cX6_cell 41 = .ok (.ifCond .ne 16, 3) := by decide +kernel
theorem dX6_cell_44 : decode cX6_cell 44 = .ok (.aload 4, 2) := by decide +kernel
theorem dX6_cell_46 : decode cX6_cell 46 = .ok (.iload_n 2, 1) := by decide +kernel
theorem dX6_cell_47 : decode cX6_cell 47 = .ok (.iconst 1, 1) := by decide +kernel
theorem dX6_cell_48 : decode cX6_cell 48 = .ok (.invokevirtual 56, 3) := by decide +kernel
theorem dX6_cell_51 : decode cX6_cell 51 = .ok (.ifCond .ne 6, 3) := by decide +kernel
theorem dX6_cell_54 : decode cX6_cell 54 = .ok (.iconst 3, 1) := by decide +kernel
theorem dX6_cell_55 : decode cX6_cell 55 = .ok (.istore 5, 2) := by decide +kernel
theorem dX6_cell_57 : decode cX6_cell 57 = .ok (.aload_n 0, 1) := by decide +kernel
theorem dX6_cell_58 : decode cX6_cell 58 = .ok (.iload 5, 2) := by decide +kernel
theorem dX6_cell_60 : decode cX6_cell 60 = .ok (.putfield 41, 3) := by decide +kernel
theorem dX6_cell_63 : decode cX6_cell 63 = .ok (.iload 5, 2) := by decide +kernel
theorem dX6_cell_65 : decode cX6_cell 65 = .ok (.ifCond .ne 14, 3) := by decide +kernel
theorem dX6_cell_68 : decode cX6_cell 68 = .ok (.aload 4, 2) := by decide +kernel
theorem dX6_cell_70 : decode cX6_cell 70 = .ok (.getfield 194, 3) := by decide +kernel
theorem dX6_cell_73 : decode cX6_cell 73 = .ok (.iload_n 2, 1) := by decide +kernel
theorem dX6_cell_74 : decode cX6_cell 74 = .ok (.iaload, 1) := by decide +kernel
theorem dX6_cell_75 : decode cX6_cell 75 = .ok (.i2l, 1) := by decide +kernel
theorem dX6_cell_76 : decode cX6_cell 76 = .ok (.goto 6, 3) := by decide +kernel
theorem dX6_cell_79 : decode cX6_cell 79 = .ok (.ldc2_w 167, 3) := by decide +kernel
theorem dX6_cell_82 : decode cX6_cell 82 = .ok (.lreturn, 1) := by decide +kernel
theorem dX6_copy_0 : decode cX6_copy 0 = .ok (.aload_n 0, 1) := by decide +kernel
theorem dX6_copy_1 : decode cX6_copy 1 = .ok (.iconst 0, 1) := by decide +kernel
theorem dX6_copy_2 : decode cX6_copy 2 = .ok (.putfield 41, 3) := by decide +kernel
theorem dX6_copy_5 : decode cX6_copy 5 = .ok (.iload_n 1, 1) := by decide +kernel
theorem dX6_copy_6 : decode cX6_copy 6 = .ok (.invokestatic 45, 3) := by decide +kernel
theorem dX6_copy_9 : decode cX6_copy 9 = .ok (.ifCond .ne 10, 3) := by decide +kernel
theorem dX6_copy_12 : decode cX6_copy 12 = .ok (.iload_n 3, 1) := by decide +kernel
theorem dX6_copy_13 : decode cX6_copy 13 = .ok (.invokestatic 45, 3) := by decide +kernel
theorem dX6_copy_16 : decode cX6_copy 16 = .ok (.ifCond .eq 5, 3) := by decide +kernel
theorem dX6_copy_19 : decode cX6_copy 19 = .ok (.iconst (-1), 1) := by decide +kernel
theorem dX6_copy_20 : decode cX6_copy 20 = .ok (.ireturn, 1) := by decide +kernel
theorem dX6_copy_21 : decode cX6_copy 21 = .ok (.aload_n 0, 1) := by decide +kernel
theorem dX6_copy_22 : decode cX6_copy 22 = .ok (.getfield 36, 3) := by decide +kernel
theorem dX6_copy_25 : decode cX6_copy 25 = .ok (.iload_n 1, 1) := by decide +kernel
theorem dX6_copy_26 : decode cX6_copy 26 = .ok (.aaload, 1) := by decide +kernel
theorem dX6_copy_27 : decode cX6_copy 27 = .ok (.astore 6, 2) := by decide +kernel
theorem dX6_copy_29 : decode cX6_copy 29 = .ok (.aload_n 0, 1) := by decide +kernel
theorem dX6_copy_30 : decode cX6_copy 30 = .ok (.getfield 36, 3) := by decide +kernel
theorem dX6_copy_33 : decode cX6_copy 33 = .ok (.iload_n 3, 1) := by decide +kernel
theorem dX6_copy_34 : decode cX6_copy 34 = .ok (.aaload, 1) := by decide +kernel
theorem dX6_copy_35 : decode cX6_copy 35 = .ok (.astore 7, 2) := by decide +kernel
theorem dX6_copy_37 : decode cX6_copy 37 = .ok (.aload 6, 2) := by decide +kernel
theorem dX6_copy_39 : decode cX6_copy 39 = .ok (.getfield 191, 3) := by decide +kernel
theorem dX6_copy_42 : decode cX6_copy 42 = .ok (.iconst (-1), 1) := by decide +kernel
theorem dX6_copy_43 : decode cX6_copy 43 = .ok (.if_icmp .eq 12, 3) := by decide +kernel
theorem dX6_copy_46 : decode cX6_copy 46 = .ok (.aload 7, 2) := by decide +kernel
theorem dX6_copy_48 : decode cX6_copy 48 = .ok (.getfield 191, 3) := by decide +kernel
theorem dX6_copy_51 : decode cX6_copy 51 = .ok (.iconst (-1), 1) := by decide +kernel
theorem dX6_copy_52 : decode cX6_copy 52 = .ok (.if_icmp .ne 9, 3) := by decide +kernel
theorem dX6_copy_55 : decode cX6_copy 55 = .ok (.aload_n 0, 1) := by decide +kernel
theorem dX6_copy_56 : decode cX6_copy 56 = .ok (.iconst 1, 1) := by decide +kernel
theorem dX6_copy_57 : decode cX6_copy 57 = .ok (.invokevirtual 60, 3) := by decide +kernel
theorem dX6_copy_60 : decode cX6_copy 60 = .ok (.ireturn, 1) := by decide +kernel
theorem dX6_copy_61 : decode cX6_copy 61 = .ok (.aload 6, 2) := by decide +kernel
theorem dX6_copy_63 : decode cX6_copy 63 = .ok (.getfield 191, 3) := by decide +kernel
theorem dX6_copy_66 : decode cX6_copy 66 = .ok (.aload 7, 2) := by decide +kernel
theorem dX6_copy_68 : decode cX6_copy 68 = .ok (.getfield 191, 3) := by decide +kernel
theorem dX6_copy_71 : decode cX6_copy 71 = .ok (.if_icmp .eq 9, 3) := by decide +kernel
theorem dX6_copy_74 : decode cX6_copy 74 = .ok (.aload_n 0, 1) := by decide +kernel
theorem dX6_copy_75 : decode cX6_copy 75 = .ok (.iconst 2, 1) := by decide +kernel
theorem dX6_copy_76 : decode cX6_copy 76 = .ok (.invokevirtual 60, 3) := by decide +kernel
theorem dX6_copy_79 : decode cX6_copy 79 = .ok (.ireturn, 1) := by decide +kernel
theorem dX6_copy_80 : decode cX6_copy 80 = .ok (.aload 6, 2) := by decide +kernel
theorem dX6_copy_82 : decode cX6_copy 82 = .ok (.iload_n 2, 1) := by decide +kernel
theorem dX6_copy_83 : decode cX6_copy 83 = .ok (.iload 5, 2) := by decide +kernel
theorem dX6_copy_85 : decode cX6_copy 85 = .ok (.invokevirtual 56, 3) := by decide +kernel
theorem dX6_copy_88 : decode cX6_copy 88 = .ok (.ifCond .eq 15, 3) := by decide +kernel
theorem dX6_copy_91 : decode cX6_copy 91 = .ok (.aload 7, 2) := by decide +kernel
theorem dX6_copy_93 : decode cX6_copy 93 = .ok (.iload 4, 2) := by decide +kernel
theorem dX6_copy_95 : decode cX6_copy 95 = .ok (.iload 5, 2) := by decide +kernel
theorem dX6_copy_97 : decode cX6_copy 97 = .ok (.invokevirtual 56, 3) := by decide +kernel
theorem dX6_copy_100 : decode cX6_copy 100 = .ok (.ifCond .ne 9, 3) := by decide +kernel
theorem dX6_copy_103 : decode cX6_copy 103 = .ok (.aload_n 0, 1) := by decide +kernel
theorem dX6_copy_104 : decode cX6_copy 104 = .ok (.iconst 3, 1) := by decide +kernel
theorem dX6_copy_105 : decode cX6_copy 105 = .ok (.invokevirtual 60, 3) := by decide +kernel
theorem dX6_copy_108 : decode cX6_copy 108 = .ok (.ireturn, 1) := by decide +kernel
theorem dX6_copy_109 : decode cX6_copy 109 = .ok (.aload 6, 2) := by decide +kernel
theorem dX6_copy_111 : decode cX6_copy 111 = .ok (.getfield 194, 3) := by decide +kernel
theorem dX6_copy_114 : decode cX6_copy 114 = .ok (.iload_n 2, 1) := by decide +kernel
theorem dX6_copy_115 : decode cX6_copy 115 = .ok (.aload 7, 2) := by decide +kernel
theorem dX6_copy_117 : decode cX6_copy 117 = .ok (.getfield 194, 3) := by decide +kernel
theorem dX6_copy_120 : decode cX6_copy 120 = .ok (.iload 4, 2) := by decide +kernel
theorem dX6_copy_122 : decode cX6_copy 122 = .ok (.iload 5, 2) := by decide +kernel
theorem dX6_copy_124 : decode cX6_copy 124 = .ok (.invokestatic 200, 3) := by decide +kernel
theorem dX6_copy_127 : decode cX6_copy 127 = .ok (.iload 5, 2) := by decide +kernel
theorem dX6_copy_129 : decode cX6_copy 129 = .ok (.ireturn, 1) := by decide +kernel
theorem dX6_tell_0 : decode cX6_tell 0 = .ok (.aload_n 0, 1) := by decide +kernel
theorem dX6_tell_1 : decode cX6_tell 1 = .ok (.iload_n 1, 1) := by decide +kernel
theorem dX6_tell_2 : decode cX6_tell 2 = .ok (.invokevirtual 79, 3) := by decide +kernel
theorem dX6_tell_5 : decode cX6_tell 5 = .ok (.ifCond .eq 5, 3) := by decide +kernel
theorem dX6_tell_8 : decode cX6_tell 8 = .ok (.iconst (-1), 1) := by decide +kernel
theorem dX6_tell_9 : decode cX6_tell 9 = .ok (.ireturn, 1) := by decide +kernel
theorem dX6_tell_10 : decode cX6_tell 10 = .ok (.aload_n 0, 1) := by decide +kernel
theorem dX6_tell_11 : decode cX6_tell 11 = .ok (.getfield 12, 3) := by decide +kernel
theorem dX6_tell_14 : decode cX6_tell 14 = .ok (.getfield 82, 3) := by decide +kernel
theorem dX6_tell_17 : decode cX6_tell 17 = .ok (.iload_n 1, 1) := by decide +kernel
theorem dX6_tell_18 : decode cX6_tell 18 = .ok (.aaload, 1) := by decide +kernel
theorem dX6_tell_19 : decode cX6_tell 19 = .ok (.astore_n 2, 1) := by decide +kernel
theorem dX6_tell_20 : decode cX6_tell 20 = .ok (.aload_n 2, 1) := by decide +kernel
theorem dX6_tell_21 : decode cX6_tell 21 = .ok (.getfield 86, 3) := by decide +kernel
theorem dX6_tell_24 : decode cX6_tell 24 = .ok (.iconst 2, 1) := by decide +kernel
theorem dX6_tell_25 : decode cX6_tell 25 = .ok (.if_icmp .ne 9, 3) := by decide +kernel
theorem dX6_tell_28 : decode cX6_tell 28 = .ok (.aload_n 0, 1) := by decide +kernel
theorem dX6_tell_29 : decode cX6_tell 29 = .ok (.aload_n 2, 1) := by decide +kernel
theorem dX6_tell_30 : decode cX6_tell 30 = .ok (.invokevirtual 206, 3) := by decide +kernel
theorem dX6_tell_33 : decode cX6_tell 33 = .ok (.ireturn, 1) := by decide +kernel
theorem dX6_tell_34 : decode cX6_tell 34 = .ok (.aload_n 2, 1) := by decide +kernel
theorem dX6_tell_35 : decode cX6_tell 35 = .ok (.getfield 86, 3) := by decide +kernel
theorem dX6_tell_38 : decode cX6_tell 38 = .ok (.iconst 1, 1) := by decide +kernel
theorem dX6_tell_39 : decode cX6_tell 39 = .ok (.if_icmp .ne 11, 3) := by decide +kernel
theorem dX6_tell_42 : decode cX6_tell 42 = .ok (.aload_n 0, 1) := by decide +kernel
theorem dX6_tell_43 : decode cX6_tell 43 = .ok (.aload_n 2, 1) := by decide +kernel
theorem dX6_tell_44 : decode cX6_tell 44 = .ok (.invokevirtual 210, 3) := by decide +kernel
theorem dX6_tell_47 : decode cX6_tell 47 = .ok (.goto 8, 3) := by decide +kernel
theorem dX6_tell_50 : decode cX6_tell 50 = .ok (.aload_n 0, 1) := by decide +kernel
theorem dX6_tell_51 : decode cX6_tell 51 = .ok (.aload_n 2, 1) := by decide +kernel
theorem dX6_tell_52 : decode cX6_tell 52 = .ok (.invokevirtual 213, 3) := by decide +kernel
theorem dX6_tell_55 : decode cX6_tell 55 = .ok (.ireturn, 1) := by decide +kernel
theorem dX6_knock_0 : decode cX6_knock 0 = .ok (.aload_n 0, 1) := by decide +kernel
theorem dX6_knock_1 : decode cX6_knock 1 = .ok (.iload_n 1, 1) := by decide +kernel
theorem dX6_knock_2 : decode cX6_knock 2 = .ok (.invokevirtual 79, 3) := by decide +kernel
theorem dX6_knock_5 : decode cX6_knock 5 = .ok (.ifCond .eq 5, 3) := by decide +kernel
theorem dX6_knock_8 : decode cX6_knock 8 = .ok (.iconst (-1), 1) := by decide +kernel
theorem dX6_knock_9 : decode cX6_knock 9 = .ok (.ireturn, 1) := by decide +kernel
theorem dX6_knock_10 : decode cX6_knock 10 = .ok (.aload_n 0, 1) := by decide +kernel
theorem dX6_knock_11 : decode cX6_knock 11 = .ok (.getfield 12, 3) := by decide +kernel
theorem dX6_knock_14 : decode cX6_knock 14 = .ok (.getfield 82, 3) := by decide +kernel
theorem dX6_knock_17 : decode cX6_knock 17 = .ok (.iload_n 1, 1) := by decide +kernel
theorem dX6_knock_18 : decode cX6_knock 18 = .ok (.aaload, 1) := by decide +kernel
theorem dX6_knock_19 : decode cX6_knock 19 = .ok (.getfield 86, 3) := by decide +kernel
theorem dX6_knock_22 : decode cX6_knock 22 = .ok (.iconst 2, 1) := by decide +kernel
theorem dX6_knock_23 : decode cX6_knock 23 = .ok (.if_icmp .ne 11, 3) := by decide +kernel
theorem dX6_knock_26 : decode cX6_knock 26 = .ok (.aload_n 0, 1) := by decide +kernel
theorem dX6_knock_27 : decode cX6_knock 27 = .ok (.iconst 5, 1) := by decide +kernel
theorem dX6_knock_28 : decode cX6_knock 28 = .ok (.invokevirtual 216, 3) := by decide +kernel
theorem dX6_knock_31 : decode cX6_knock 31 = .ok (.bipush 70, 2) := by decide +kernel
theorem dX6_knock_33 : decode cX6_knock 33 = .ok (.ireturn, 1) := by decide +kernel
theorem dX6_knock_34 : decode cX6_knock 34 = .ok (.aload_n 0, 1) := by decide +kernel
theorem dX6_knock_35 : decode cX6_knock 35 = .ok (.iconst 4, 1) := by decide +kernel
theorem dX6_knock_36 : decode cX6_knock 36 = .ok (.invokevirtual 216, 3) := by decide +kernel
theorem dX6_knock_39 : decode cX6_knock 39 = .ok (.iload_n 1, 1) := by decide +kernel
theorem dX6_knock_40 : decode cX6_knock 40 = .ok (.ireturn, 1) := by decide +kernel
theorem dX6_as_0 : decode cX6_as 0 = .ok (.aload_n 0, 1) := by decide +kernel
theorem dX6_as_1 : decode cX6_as 1 = .ok (.iconst 0, 1) := by decide +kernel
theorem dX6_as_2 : decode cX6_as 2 = .ok (.putfield 41, 3) := by decide +kernel
theorem dX6_as_5 : decode cX6_as 5 = .ok (.aload_n 0, 1) := by decide +kernel
theorem dX6_as_6 : decode cX6_as 6 = .ok (.iload_n 1, 1) := by decide +kernel
theorem dX6_as_7 : decode cX6_as 7 = .ok (.invokevirtual 79, 3) := by decide +kernel
theorem dX6_as_10 : decode cX6_as 10 = .ok (.ifCond .eq 5, 3) := by decide +kernel
theorem dX6_as_13 : decode cX6_as 13 = .ok (.iconst (-1), 1) := by decide +kernel
theorem dX6_as_14 : decode cX6_as 14 = .ok (.ireturn, 1) := by decide +kernel
theorem dX6_as_15 : decode cX6_as 15 = .ok (.iconst 0, 1) := by decide +kernel
theorem dX6_as_16 : decode cX6_as 16 = .ok (.iload_n 2, 1) := by decide +kernel
theorem dX6_as_17 : decode cX6_as 17 = .ok (.iconst 2, 1) := by decide +kernel
theorem dX6_as_18 : decode cX6_as 18 = .ok (.invokestatic 104, 3) := by decide +kernel
theorem dX6_as_21 : decode cX6_as 21 = .ok (.ifCond .eq 6, 3) := by decide +kernel
theorem dX6_as_24 : decode cX6_as 24 = .ok (.bipush (-2), 2) := by decide +kernel
theorem dX6_as_26 : decode cX6_as 26 = .ok (.ireturn, 1) := by decide +kernel
theorem dX6_as_27 : decode cX6_as 27 = .ok (.aload_n 0, 1) := by decide +kernel
theorem dX6_as_28 : decode cX6_as 28 = .ok (.getfield 12, 3) := by decide +kernel
theorem dX6_as_31 : decode cX6_as 31 = .ok (.getfield 82, 3) := by decide +kernel
theorem dX6_as_34 : decode cX6_as 34 = .ok (.iload_n 1, 1) := by decide +kernel
theorem dX6_as_35 : decode cX6_as 35 = .ok (.aaload, 1) := by decide +kernel
theorem dX6_as_36 : decode cX6_as 36 = .ok (.getfield 86, 3) := by decide +kernel
theorem dX6_as_39 : decode cX6_as 39 = .ok (.iload_n 2, 1) := by decide +kernel
theorem dX6_as_40 : decode cX6_as 40 = .ok (.if_icmp .ge 11, 3) := by decide +kernel
theorem dX6_as_43 : decode cX6_as 43 = .ok (.aload_n 0, 1) := by decide +kernel
theorem dX6_as_44 : decode cX6_as 44 = .ok (.iconst 2, 1) := by decide +kernel
theorem dX6_as_45 : decode cX6_as 45 = .ok (.invokevirtual 60, 3) := by decide +kernel
theorem dX6_as_48 : decode cX6_as 48 = .ok (.goto 4, 3) := by decide +kernel
theorem dX6_as_51 : decode cX6_as 51 = .ok (.iconst 1, 1) := by decide +kernel
theorem dX6_as_52 : decode cX6_as 52 = .ok (.ireturn, 1) := by decide +kernel
theorem dX6_trace_0 : decode cX6_trace 0 = .ok (.aload_n 0, 1) := by decide +kernel
theorem dX6_trace_1 : decode cX6_trace 1 = .ok (.getfield 219, 3) := by decide +kernel
theorem dX6_trace_4 : decode cX6_trace 4 = .ok (.ireturn, 1) := by decide +kernel
theorem dX6_fault_0 : decode cX6_fault 0 = .ok (.aload_n 0, 1) := by decide +kernel
theorem dX6_fault_1 : decode cX6_fault 1 = .ok (.getfield 41, 3) := by decide +kernel
theorem dX6_fault_4 : decode cX6_fault 4 = .ok (.ireturn, 1) := by decide +kernel
theorem dX6_many_0 : decode cX6_many 0 = .ok (.iload_n 1, 1) := by decide +kernel
theorem dX6_many_1 : decode cX6_many 1 = .ok (.tableswitch 75 0 4 #[35, 43, 51, 59, 67], 35) := by decide +kernel
theorem dX6_many_36 : decode cX6_many 36 = .ok (.aload_n 0, 1) := by decide +kernel
theorem dX6_many_37 : decode cX6_many 37 = .ok (.getfield 12, 3) := by decide +kernel
theorem dX6_many_40 : decode cX6_many 40 = .ok (.getfield 76, 3) := by decide +kernel
theorem dX6_many_43 : decode cX6_many 43 = .ok (.ireturn, 1) := by decide +kernel
theorem dX6_many_44 : decode cX6_many 44 = .ok (.aload_n 0, 1) := by decide +kernel
theorem dX6_many_45 : decode cX6_many 45 = .ok (.getfield 12, 3) := by decide +kernel
theorem dX6_many_48 : decode cX6_many 48 = .ok (.getfield 112, 3) := by decide +kernel
theorem dX6_many_51 : decode cX6_many 51 = .ok (.ireturn, 1) := by decide +kernel
theorem dX6_many_52 : decode cX6_many 52 = .ok (.aload_n 0, 1) := by decide +kernel
theorem dX6_many_53 : decode cX6_many 53 = .ok (.getfield 12, 3) := by decide +kernel
theorem dX6_many_56 : decode cX6_many 56 = .ok (.getfield 222, 3) := by decide +kernel
theorem dX6_many_59 : decode cX6_many 59 = .ok (.ireturn, 1) := by decide +kernel
theorem dX6_many_60 : decode cX6_many 60 = .ok (.aload_n 0, 1) := by decide +kernel
theorem dX6_many_61 : decode cX6_many 61 = .ok (.getfield 12, 3) := by decide +kernel
theorem dX6_many_64 : decode cX6_many 64 = .ok (.getfield 125, 3) := by decide +kernel
theorem dX6_many_67 : decode cX6_many 67 = .ok (.ireturn, 1) := by decide +kernel
theorem dX6_many_68 : decode cX6_many 68 = .ok (.aload_n 0, 1) := by decide +kernel
theorem dX6_many_69 : decode cX6_many 69 = .ok (.getfield 30, 3) := by decide +kernel
theorem dX6_many_72 : decode cX6_many 72 = .ok (.getfield 73, 3) := by decide +kernel
theorem dX6_many_75 : decode cX6_many 75 = .ok (.ireturn, 1) := by decide +kernel
theorem dX6_many_76 : decode cX6_many 76 = .ok (.bipush (-2), 2) := by decide +kernel
theorem dX6_many_78 : decode cX6_many 78 = .ok (.ireturn, 1) := by decide +kernel
theorem dX6_noYard_0 : decode cX6_noYard 0 = .ok (.aload_n 0, 1) := by decide +kernel
theorem dX6_noYard_1 : decode cX6_noYard 1 = .ok (.getfield 12, 3) := by decide +kernel
theorem dX6_noYard_4 : decode cX6_noYard 4 = .ok (.getfield 76, 3) := by decide +kernel
theorem dX6_noYard_7 : decode cX6_noYard 7 = .ok (.ifCond .ne 7, 3) := by decide +kernel
theorem dX6_noYard_10 : decode cX6_noYard 10 = .ok (.iconst 1, 1) := by decide +kernel
theorem dX6_noYard_11 : decode cX6_noYard 11 = .ok (.goto 4, 3) := by decide +kernel
theorem dX6_noYard_14 : decode cX6_noYard 14 = .ok (.iconst 0, 1) := by decide +kernel
theorem dX6_noYard_15 : decode cX6_noYard 15 = .ok (.ireturn, 1) := by decide +kernel
theorem dX6_noTap_0 : decode cX6_noTap 0 = .ok (.iload_n 1, 1) := by decide +kernel
theorem dX6_noTap_1 : decode cX6_noTap 1 = .ok (.ifCond .lt 14, 3) := by decide +kernel
theorem dX6_noTap_4 : decode cX6_noTap 4 = .ok (.iload_n 1, 1) := by decide +kernel
theorem dX6_noTap_5 : decode cX6_noTap 5 = .ok (.aload_n 0, 1) := by decide +kernel
theorem dX6_noTap_6 : decode cX6_noTap 6 = .ok (.getfield 12, 3) := by decide +kernel
theorem dX6_noTap_9 : decode cX6_noTap 9 = .ok (.getfield 76, 3) := by decide +kernel
theorem dX6_noTap_12 : decode cX6_noTap 12 = .ok (.if_icmp .lt 7, 3) := by decide +kernel
theorem dX6_noTap_15 : decode cX6_noTap 15 = .ok (.iconst 1, 1) := by decide +kernel
theorem dX6_noTap_16 : decode cX6_noTap 16 = .ok (.goto 4, 3) := by decide +kernel
theorem dX6_noTap_19 : decode cX6_noTap 19 = .ok (.iconst 0, 1) := by decide +kernel
theorem dX6_noTap_20 : decode cX6_noTap 20 = .ok (.ireturn, 1) := by decide +kernel
theorem dX6_noDay_0 : decode cX6_noDay 0 = .ok (.iconst 0, 1) := by decide +kernel
theorem dX6_noDay_1 : decode cX6_noDay 1 = .ok (.iload_n 0, 1) := by decide +kernel
theorem dX6_noDay_2 : decode cX6_noDay 2 = .ok (.bipush 9, 2) := by decide +kernel
theorem dX6_noDay_4 : decode cX6_noDay 4 = .ok (.invokestatic 104, 3) := by decide +kernel
theorem dX6_noDay_7 : decode cX6_noDay 7 = .ok (.ireturn, 1) := by decide +kernel
theorem dX6_noSheet_0 : decode cX6_noSheet 0 = .ok (.iconst 0, 1) := by decide +kernel
theorem dX6_noSheet_1 : decode cX6_noSheet 1 = .ok (.iload_n 0, 1) := by decide +kernel
theorem dX6_noSheet_2 : decode cX6_noSheet 2 = .ok (.iconst 3, 1) := by decide +kernel
theorem dX6_noSheet_3 : decode cX6_noSheet 3 = .ok (.invokestatic 104, 3) := by decide +kernel
theorem dX6_noSheet_6 : decode cX6_noSheet 6 = .ok (.ireturn, 1) := by decide +kernel
theorem dX6_noLane_0 : decode cX6_noLane 0 = .ok (.iconst 0, 1) := by decide +kernel
theorem dX6_noLane_1 : decode cX6_noLane 1 = .ok (.iload_n 0, 1) := by decide +kernel
theorem dX6_noLane_2 : decode cX6_noLane 2 = .ok (.iconst 2, 1) := by decide +kernel
theorem dX6_noLane_3 : decode cX6_noLane 3 = .ok (.invokestatic 104, 3) := by decide +kernel
theorem dX6_noLane_6 : decode cX6_noLane 6 = .ok (.ireturn, 1) := by decide +kernel
theorem dX6_isNot_0 : decode cX6_isNot 0 = .ok (.iload_n 1, 1) := by decide +kernel
theorem dX6_isNot_1 : decode cX6_isNot 1 = .ok (.iload_n 0, 1) := by decide +kernel
theorem dX6_isNot_2 : decode cX6_isNot 2 = .ok (.if_icmp .lt 8, 3) := by decide +kernel
theorem dX6_isNot_5 : decode cX6_isNot 5 = .ok (.iload_n 1, 1) := by decide +kernel
theorem dX6_isNot_6 : decode cX6_isNot 6 = .ok (.iload_n 2, 1) := by decide +kernel
theorem dX6_isNot_7 : decode cX6_isNot 7 = .ok (.if_icmp .le 7, 3) := by decide +kernel
theorem dX6_isNot_10 : decode cX6_isNot 10 = .ok (.iconst 1, 1) := by decide +kernel
theorem dX6_isNot_11 : decode cX6_isNot 11 = .ok (.goto 4, 3) := by decide +kernel
theorem dX6_isNot_14 : decode cX6_isNot 14 = .ok (.iconst 0, 1) := by decide +kernel
theorem dX6_isNot_15 : decode cX6_isNot 15 = .ok (.ireturn, 1) := by decide +kernel
theorem dX6_failBy_0 : decode cX6_failBy 0 = .ok (.aload_n 0, 1) := by decide +kernel
theorem dX6_failBy_1 : decode cX6_failBy 1 = .ok (.iload_n 1, 1) := by decide +kernel
theorem dX6_failBy_2 : decode cX6_failBy 2 = .ok (.putfield 41, 3) := by decide +kernel
theorem dX6_failBy_5 : decode cX6_failBy 5 = .ok (.bipush (-10), 2) := by decide +kernel
theorem dX6_failBy_7 : decode cX6_failBy 7 = .ok (.iload_n 1, 1) := by decide +kernel
theorem dX6_failBy_8 : decode cX6_failBy 8 = .ok (.isub, 1) := by decide +kernel
theorem dX6_failBy_9 : decode cX6_failBy 9 = .ok (.ireturn, 1) := by decide +kernel
theorem dX6_passAsTold_0 : decode cX6_passAsTold 0 = .ok (.aload_n 0, 1) := by decide +kernel
theorem dX6_passAsTold_1 : decode cX6_passAsTold 1 = .ok (.getfield 23, 3) := by decide +kernel
theorem dX6_passAsTold_4 : decode cX6_passAsTold 4 = .ok (.aload_n 0, 1) := by decide +kernel
theorem dX6_passAsTold_5 : decode cX6_passAsTold 5 = .ok (.getfield 12, 3) := by decide +kernel
theorem dX6_passAsTold_8 : decode cX6_passAsTold 8 = .ok (.getfield 115, 3) := by decide +kernel
theorem dX6_passAsTold_11 : decode cX6_passAsTold 11 = .ok (.aload_n 0, 1) := by decide +kernel
theorem dX6_passAsTold_12 : decode cX6_passAsTold 12 = .ok (.getfield 12, 3) := by decide +kernel
theorem dX6_passAsTold_15 : decode cX6_passAsTold 15 = .ok (.getfield 125, 3) := by decide +kernel
theorem dX6_passAsTold_18 : decode cX6_passAsTold 18 = .ok (.invokevirtual 157, 3) := by decide +kernel
theorem dX6_passAsTold_21 : decode cX6_passAsTold 21 = .ok (.aload_n 0, 1) := by decide +kernel
theorem dX6_passAsTold_22 : decode cX6_passAsTold 22 = .ok (.getfield 23, 3) := by decide +kernel
theorem dX6_passAsTold_25 : decode cX6_passAsTold 25 = .ok (.iconst 0, 1) := by decide +kernel
theorem dX6_passAsTold_26 : decode cX6_passAsTold 26 = .ok (.iload_n 1, 1) := by decide +kernel
theorem dX6_passAsTold_27 : decode cX6_passAsTold 27 = .ok (.invokevirtual 161, 3) := by decide +kernel
theorem dX6_passAsTold_30 : decode cX6_passAsTold 30 = .ok (.return_, 1) := by decide +kernel
theorem dX6_marksHoldBehind_0 : decode cX6_marksHoldBehind 0 = .ok (.aload_n 0, 1) := by decide +kernel
theorem dX6_marksHoldBehind_1 : decode cX6_marksHoldBehind 1 = .ok (.getfield 30, 3) := by decide +kernel
theorem dX6_marksHoldBehind_4 : decode cX6_marksHoldBehind 4 = .ok (.invokevirtual 225, 3) := by decide +kernel
theorem dX6_marksHoldBehind_7 : decode cX6_marksHoldBehind 7 = .ok (.istore_n 2, 1) := by decide +kernel
theorem dX6_marksHoldBehind_8 : decode cX6_marksHoldBehind 8 = .ok (.iconst 0, 1) := by decide +kernel
theorem dX6_marksHoldBehind_9 : decode cX6_marksHoldBehind 9 = .ok (.istore_n 3, 1) := by decide +kernel
theorem dX6_marksHoldBehind_10 : decode cX6_marksHoldBehind 10 = .ok (.iload_n 3, 1) := by decide +kernel
theorem dX6_marksHoldBehind_11 : decode cX6_marksHoldBehind 11 = .ok (.iload_n 2, 1) := by decide +kernel
theorem dX6_marksHoldBehind_12 : decode cX6_marksHoldBehind 12 = .ok (.if_icmp .gt 59, 3) := by decide +kernel
theorem dX6_marksHoldBehind_15 : decode cX6_marksHoldBehind 15 = .ok (.iload_n 3, 1) := by decide +kernel
theorem dX6_marksHoldBehind_16 : decode cX6_marksHoldBehind 16 = .ok (.iload_n 1, 1) := by decide +kernel
theorem dX6_marksHoldBehind_17 : decode cX6_marksHoldBehind 17 = .ok (.iconst 1, 1) := by decide +kernel
theorem dX6_marksHoldBehind_18 : decode cX6_marksHoldBehind 18 = .ok (.iadd, 1) := by decide +kernel
theorem dX6_marksHoldBehind_19 : decode cX6_marksHoldBehind 19 = .ok (.if_icmp .le 24, 3) := by decide +kernel
theorem dX6_marksHoldBehind_22 : decode cX6_marksHoldBehind 22 = .ok (.aload_n 0, 1) := by decide +kernel
theorem dX6_marksHoldBehind_23 : decode cX6_marksHoldBehind 23 = .ok (.getfield 23, 3) := by decide +kernel
theorem dX6_marksHoldBehind_26 : decode cX6_marksHoldBehind 26 = .ok (.iload_n 3, 1) := by decide +kernel
theorem dX6_marksHoldBehind_27 : decode cX6_marksHoldBehind 27 = .ok (.iconst 1, 1) := by decide +kernel
theorem dX6_marksHoldBehind_28 : decode cX6_marksHoldBehind 28 = .ok (.isub, 1) := by decide +kernel
theorem dX6_marksHoldBehind_29 : decode cX6_marksHoldBehind 29 = .ok (.aload_n 0, 1) := by decide +kernel
theorem dX6_marksHoldBehind_30 : decode cX6_marksHoldBehind 30 = .ok (.getfield 12, 3) := by decide +kernel
theorem dX6_marksHoldBehind_33 : decode cX6_marksHoldBehind 33 = .ok (.getfield 121, 3) := by decide +kernel
theorem dX6_marksHoldBehind_36 : decode cX6_marksHoldBehind 36 = .ok (.iload_n 3, 1) := by decide +kernel
theorem dX6_marksHoldBehind_37 : decode cX6_marksHoldBehind 37 = .ok (.iconst 1, 1) := by decide +kernel
theorem dX6_marksHoldBehind_38 : decode cX6_marksHoldBehind 38 = .ok (.isub, 1) := by decide +kernel
theorem dX6_marksHoldBehind_39 : decode cX6_marksHoldBehind 39 = .ok (.iaload, 1) := by decide +kernel
theorem dX6_marksHoldBehind_40 : decode cX6_marksHoldBehind 40 = .ok (.invokevirtual 176, 3) := by decide +kernel
theorem dX6_marksHoldBehind_43 : decode cX6_marksHoldBehind 43 = .ok (.aload_n 0, 1) := by decide +kernel
theorem dX6_marksHoldBehind_44 : decode cX6_marksHoldBehind 44 = .ok (.getfield 30, 3) := by decide +kernel
theorem dX6_marksHoldBehind_47 : decode cX6_marksHoldBehind 47 = .ok (.iload_n 3, 1) := by decide +kernel
theorem dX6_marksHoldBehind_48 : decode cX6_marksHoldBehind 48 = .ok (.aload_n 0, 1) := by decide +kernel
theorem dX6_marksHoldBehind_49 : decode cX6_marksHoldBehind 49 = .ok (.getfield 23, 3) := by decide +kernel
theorem dX6_marksHoldBehind_52 : decode cX6_marksHoldBehind 52 = .ok (.getfield 142, 3) := by decide +kernel
theorem dX6_marksHoldBehind_55 : decode cX6_marksHoldBehind 55 = .ok (.iload_n 3, 1) := by decide +kernel
theorem dX6_marksHoldBehind_56 : decode cX6_marksHoldBehind 56 = .ok (.iaload, 1) := by decide +kernel
theorem dX6_marksHoldBehind_57 : decode cX6_marksHoldBehind 57 = .ok (.invokevirtual 228, 3) := by decide +kernel
theorem dX6_marksHoldBehind_60 : decode cX6_marksHoldBehind 60 = .ok (.ifCond .ne 5, 3) := by decide +kernel
theorem dX6_marksHoldBehind_63 : decode cX6_marksHoldBehind 63 = .ok (.iconst 0, 1) := by decide +kernel
theorem dX6_marksHoldBehind_64 : decode cX6_marksHoldBehind 64 = .ok (.ireturn, 1) := by decide +kernel
theorem dX6_marksHoldBehind_65 : decode cX6_marksHoldBehind 65 = .ok (.iinc 3 1, 3) := by decide +kernel
theorem dX6_marksHoldBehind_68 : decode cX6_marksHoldBehind 68 = .ok (.goto (-58), 3) := by decide +kernel
theorem dX6_marksHoldBehind_71 : decode cX6_marksHoldBehind 71 = .ok (.iconst 1, 1) := by decide +kernel
theorem dX6_marksHoldBehind_72 : decode cX6_marksHoldBehind 72 = .ok (.ireturn, 1) := by decide +kernel
theorem dX6_inLeastTerms_0 : decode cX6_inLeastTerms 0 = .ok (.iload_n 1, 1) := by decide +kernel
theorem dX6_inLeastTerms_1 : decode cX6_inLeastTerms 1 = .ok (.istore_n 3, 1) := by decide +kernel
theorem dX6_inLeastTerms_2 : decode cX6_inLeastTerms 2 = .ok (.iload_n 0, 1) := by decide +kernel
theorem dX6_inLeastTerms_3 : decode cX6_inLeastTerms 3 = .ok (.istore 4, 2) := by decide +kernel
theorem dX6_inLeastTerms_5 : decode cX6_inLeastTerms 5 = .ok (.iconst 0, 1) := by decide +kernel
theorem dX6_inLeastTerms_6 : decode cX6_inLeastTerms 6 = .ok (.istore 5, 2) := by decide +kernel
theorem dX6_inLeastTerms_8 : decode cX6_inLeastTerms 8 = .ok (.iload 5, 2) := by decide +kernel
theorem dX6_inLeastTerms_10 : decode cX6_inLeastTerms 10 = .ok (.bipush 100, 2) := by decide +kernel
theorem dX6_inLeastTerms_12 : decode cX6_inLeastTerms 12 = .ok (.if_icmp .ge 27, 3) := by decide +kernel
theorem dX6_inLeastTerms_15 : decode cX6_inLeastTerms 15 = .ok (.iload 4, 2) := by decide +kernel
theorem dX6_inLeastTerms_17 : decode cX6_inLeastTerms 17 = .ok (.ifCond .le 22, 3) := by decide +kernel
theorem dX6_inLeastTerms_20 : decode cX6_inLeastTerms 20 = .ok (.iload_n 3, 1) := by decide +kernel
theorem dX6_inLeastTerms_21 : decode cX6_inLeastTerms 21 = .ok (.iload 4, 2) := by decide +kernel
theorem dX6_inLeastTerms_23 : decode cX6_inLeastTerms 23 = .ok (.irem, 1) := by decide +kernel
theorem dX6_inLeastTerms_24 : decode cX6_inLeastTerms 24 = .ok (.istore 6, 2) := by decide +kernel
theorem dX6_inLeastTerms_26 : decode cX6_inLeastTerms 26 = .ok (.iload 4, 2) := by decide +kernel
theorem dX6_inLeastTerms_28 : decode cX6_inLeastTerms 28 = .ok (.istore_n 3, 1) := by decide +kernel
theorem dX6_inLeastTerms_29 : decode cX6_inLeastTerms 29 = .ok (.iload 6, 2) := by decide +kernel
theorem dX6_inLeastTerms_31 : decode cX6_inLeastTerms 31 = .ok (.istore 4, 2) := by decide +kernel
theorem dX6_inLeastTerms_33 : decode cX6_inLeastTerms 33 = .ok (.iinc 5 1, 3) := by decide +kernel
theorem dX6_inLeastTerms_36 : decode cX6_inLeastTerms 36 = .ok (.goto (-28), 3) := by decide +kernel
theorem dX6_inLeastTerms_39 : decode cX6_inLeastTerms 39 = .ok (.iload_n 2, 1) := by decide +kernel
theorem dX6_inLeastTerms_40 : decode cX6_inLeastTerms 40 = .ok (.ifCond .ne 7, 3) := by decide +kernel
theorem dX6_inLeastTerms_43 : decode cX6_inLeastTerms 43 = .ok (.iload_n 0, 1) := by decide +kernel
theorem dX6_inLeastTerms_44 : decode cX6_inLeastTerms 44 = .ok (.goto 4, 3) := by decide +kernel
theorem dX6_inLeastTerms_47 : decode cX6_inLeastTerms 47 = .ok (.iload_n 1, 1) := by decide +kernel
theorem dX6_inLeastTerms_48 : decode cX6_inLeastTerms 48 = .ok (.istore 5, 2) := by decide +kernel
theorem dX6_inLeastTerms_50 : decode cX6_inLeastTerms 50 = .ok (.iload_n 3, 1) := by decide +kernel
theorem dX6_inLeastTerms_51 : decode cX6_inLeastTerms 51 = .ok (.ifCond .le 11, 3) := by decide +kernel
theorem dX6_inLeastTerms_54 : decode cX6_inLeastTerms 54 = .ok (.iload 5, 2) := by decide +kernel
theorem dX6_inLeastTerms_56 : decode cX6_inLeastTerms 56 = .ok (.iload_n 3, 1) := by decide +kernel
theorem dX6_inLeastTerms_57 : decode cX6_inLeastTerms 57 = .ok (.idiv, 1) := by decide +kernel
theorem dX6_inLeastTerms_58 : decode cX6_inLeastTerms 58 = .ok (.i2l, 1) := by decide +kernel
theorem dX6_inLeastTerms_59 : decode cX6_inLeastTerms 59 = .ok (.goto 6, 3) := by decide +kernel
theorem dX6_inLeastTerms_62 : decode cX6_inLeastTerms 62 = .ok (.iload 5, 2) := by decide +kernel
theorem dX6_inLeastTerms_64 : decode cX6_inLeastTerms 64 = .ok (.i2l, 1) := by decide +kernel
theorem dX6_inLeastTerms_65 : decode cX6_inLeastTerms 65 = .ok (.lreturn, 1) := by decide +kernel
theorem dX6_familyTells_0 : decode cX6_familyTells 0 = .ok (.aload_n 0, 1) := by decide +kernel
theorem dX6_familyTells_1 : decode cX6_familyTells 1 = .ok (.iconst 1, 1) := by decide +kernel
theorem dX6_familyTells_2 : decode cX6_familyTells 2 = .ok (.invokevirtual 216, 3) := by decide +kernel
theorem dX6_familyTells_5 : decode cX6_familyTells 5 = .ok (.aload_n 1, 1) := by decide +kernel
theorem dX6_familyTells_6 : decode cX6_familyTells 6 = .ok (.getfield 94, 3) := by decide +kernel
theorem dX6_familyTells_9 : decode cX6_familyTells 9 = .ok (.ireturn, 1) := by decide +kernel
theorem dX6_greedyTells_0 : decode cX6_greedyTells 0 = .ok (.aload_n 0, 1) := by decide +kernel
theorem dX6_greedyTells_1 : decode cX6_greedyTells 1 = .ok (.iconst 2, 1) := by decide +kernel
theorem dX6_greedyTells_2 : decode cX6_greedyTells 2 = .ok (.invokevirtual 216, 3) := by decide +kernel
theorem dX6_greedyTells_5 : decode cX6_greedyTells 5 = .ok (.aload_n 0, 1) := by decide +kernel
theorem dX6_greedyTells_6 : decode cX6_greedyTells 6 = .ok (.aload_n 1, 1) := by decide +kernel
theorem dX6_greedyTells_7 : decode cX6_greedyTells 7 = .ok (.invokevirtual 213, 3) := by decide +kernel
theorem dX6_greedyTells_10 : decode cX6_greedyTells 10 = .ok (.bipush 100, 2) := by decide +kernel
theorem dX6_greedyTells_12 : decode cX6_greedyTells 12 = .ok (.iadd, 1) := by decide +kernel
theorem dX6_greedyTells_13 : decode cX6_greedyTells 13 = .ok (.ireturn, 1) := by decide +kernel
theorem dX6_oldestTells_0 : decode cX6_oldestTells 0 = .ok (.aload_n 0, 1) := by decide +kernel
theorem dX6_oldestTells_1 : decode cX6_oldestTells 1 = .ok (.iconst 3, 1) := by decide +kernel
theorem dX6_oldestTells_2 : decode cX6_oldestTells 2 = .ok (.invokevirtual 216, 3) := by decide +kernel
theorem dX6_oldestTells_5 : decode cX6_oldestTells 5 = .ok (.aload_n 0, 1) := by decide +kernel
theorem dX6_oldestTells_6 : decode cX6_oldestTells 6 = .ok (.aload_n 1, 1) := by decide +kernel
theorem dX6_oldestTells_7 : decode cX6_oldestTells 7 = .ok (.invokevirtual 210, 3) := by decide +kernel
theorem dX6_oldestTells_10 : decode cX6_oldestTells 10 = .ok (.istore_n 2, 1) := by decide +kernel
theorem dX6_oldestTells_11 : decode cX6_oldestTells 11 = .ok (.iload_n 2, 1) := by decide +kernel
theorem dX6_oldestTells_12 : decode cX6_oldestTells 12 = .ok (.aload_n 0, 1) := by decide +kernel
theorem dX6_oldestTells_13 : decode cX6_oldestTells 13 = .ok (.aload_n 1, 1) := by decide +kernel
theorem dX6_oldestTells_14 : decode cX6_oldestTells 14 = .ok (.invokevirtual 213, 3) := by decide +kernel
theorem dX6_oldestTells_17 : decode cX6_oldestTells 17 = .ok (.iadd, 1) := by decide +kernel
theorem dX6_oldestTells_18 : decode cX6_oldestTells 18 = .ok (.ireturn, 1) := by decide +kernel
theorem dX6_leaveTrace_0 : decode cX6_leaveTrace 0 = .ok (.aload_n 0, 1) := by decide +kernel
theorem dX6_leaveTrace_1 : decode cX6_leaveTrace 1 = .ok (.bipush 31, 2) := by decide +kernel
theorem dX6_leaveTrace_3 : decode cX6_leaveTrace 3 = .ok (.aload_n 0, 1) := by decide +kernel
theorem dX6_leaveTrace_4 : decode cX6_leaveTrace 4 = .ok (.getfield 219, 3) := by decide +kernel
theorem dX6_leaveTrace_7 : decode cX6_leaveTrace 7 = .ok (.imul, 1) := by decide +kernel
theorem dX6_leaveTrace_8 : decode cX6_leaveTrace 8 = .ok (.iload_n 1, 1) := by decide +kernel
theorem dX6_leaveTrace_9 : decode cX6_leaveTrace 9 = .ok (.iadd, 1) := by decide +kernel
theorem dX6_leaveTrace_10 : decode cX6_leaveTrace 10 = .ok (.putfield 219, 3) := by decide +kernel
theorem dX6_leaveTrace_13 : decode cX6_leaveTrace 13 = .ok (.return_, 1) := by decide +kernel
end
section
theorem dX7_init_0 : decode cX7_init 0 = .ok (.aload_n 0, 1) := by decide +kernel
theorem dX7_init_1 : decode cX7_init 1 = .ok (.invokespecial 1, 3) := by decide +kernel
theorem dX7_init_4 : decode cX7_init 4 = .ok (.aload_n 0, 1) := by decide +kernel
theorem dX7_init_5 : decode cX7_init 5 = .ok (.iconst 4, 1) := by decide +kernel
theorem dX7_init_6 : decode cX7_init 6 = .ok (.newarray .int, 2) := by decide +kernel
theorem dX7_init_8 : decode cX7_init 8 = .ok (.dup, 1) := by decide +kernel
theorem dX7_init_9 : decode cX7_init 9 = .ok (.iconst 0, 1) := by decide +kernel
theorem dX7_init_10 : decode cX7_init 10 = .ok (.bipush (-9), 2) := by decide +kernel
theorem dX7_init_12 : decode cX7_init 12 = .ok (.iastore, 1) := by decide +kernel
theorem dX7_init_13 : decode cX7_init 13 = .ok (.dup, 1) := by decide +kernel
theorem dX7_init_14 : decode cX7_init 14 = .ok (.iconst 1, 1) := by decide +kernel
theorem dX7_init_15 : decode cX7_init 15 = .ok (.bipush (-9), 2) := by decide +kernel
theorem dX7_init_17 : decode cX7_init 17 = .ok (.iastore, 1) := by decide +kernel
theorem dX7_init_18 : decode cX7_init 18 = .ok (.dup, 1) := by decide +kernel
theorem dX7_init_19 : decode cX7_init 19 = .ok (.iconst 2, 1) := by decide +kernel
theorem dX7_init_20 : decode cX7_init 20 = .ok (.bipush (-9), 2) := by decide +kernel
theorem dX7_init_22 : decode cX7_init 22 = .ok (.iastore, 1) := by decide +kernel
theorem dX7_init_23 : decode cX7_init 23 = .ok (.dup, 1) := by decide +kernel
theorem dX7_init_24 : decode cX7_init 24 = .ok (.iconst 3, 1) := by decide +kernel
theorem dX7_init_25 : decode cX7_init 25 = .ok (.bipush (-9), 2) := by decide +kernel
theorem dX7_init_27 : decode cX7_init 27 = .ok (.iastore, 1) := by decide +kernel
theorem dX7_init_28 : decode cX7_init 28 = .ok (.putfield 9, 3) := by decide +kernel
theorem dX7_init_31 : decode cX7_init 31 = .ok (.aload_n 0, 1) := by decide +kernel
theorem dX7_init_32 : decode cX7_init 32 = .ok (.iconst 4, 1) := by decide +kernel
theorem dX7_init_33 : decode cX7_init 33 = .ok (.newarray .int, 2) := by decide +kernel
theorem dX7_init_35 : decode cX7_init 35 = .ok (.putfield 13, 3) := by decide +kernel
theorem dX7_init_38 : decode cX7_init 38 = .ok (.aload_n 0, 1) := by decide +kernel
theorem dX7_init_39 : decode cX7_init 39 = .ok (.sipush 240, 3) := by decide +kernel
theorem dX7_init_42 : decode cX7_init 42 = .ok (.newarray .int, 2) := by decide +kernel
theorem dX7_init_44 : decode cX7_init 44 = .ok (.putfield 16, 3) := by decide +kernel
theorem dX7_init_47 : decode cX7_init 47 = .ok (.aload_n 0, 1) := by decide +kernel
theorem dX7_init_48 : decode cX7_init 48 = .ok (.bipush 6, 2) := by decide +kernel
theorem dX7_init_50 : decode cX7_init 50 = .ok (.newarray .int, 2) := by decide +kernel
theorem dX7_init_52 : decode cX7_init 52 = .ok (.putfield 19, 3) := by decide +kernel
theorem dX7_init_55 : decode cX7_init 55 = .ok (.aload_n 0, 1) := by decide +kernel
theorem dX7_init_56 : decode cX7_init 56 = .ok (.bipush 6, 2) := by decide +kernel
theorem dX7_init_58 : decode cX7_init 58 = .ok (.newarray .int, 2) := by decide +kernel
theorem dX7_init_60 : decode cX7_init 60 = .ok (.putfield 22, 3) := by decide +kernel
theorem dX7_init_63 : decode cX7_init 63 = .ok (.aload_n 0, 1) := by decide +kernel
theorem dX7_init_64 : decode cX7_init 64 = .ok (.bipush 6, 2) := by decide +kernel
theorem dX7_init_66 : decode cX7_init 66 = .ok (.newarray .int, 2) := by decide +kernel
theorem dX7_init_68 : decode cX7_init 68 = .ok (.putfield 25, 3) := by decide +kernel
theorem dX7_init_71 : decode cX7_init 71 = .ok (.aload_n 0, 1) := by decide +kernel
theorem dX7_init_72 : decode cX7_init 72 = .ok (.bipush 6, 2) := by decide +kernel
theorem dX7_init_74 : decode cX7_init 74 = .ok (.newarray .int, 2) := by decide +kernel
theorem dX7_init_76 : decode cX7_init 76 = .ok (.putfield 28, 3) := by decide +kernel
theorem dX7_init_79 : decode cX7_init 79 = .ok (.aload_n 0, 1) := by decide +kernel
theorem dX7_init_80 : decode cX7_init 80 = .ok (.bipush 10, 2) := by decide +kernel
theorem dX7_init_82 : decode cX7_init 82 = .ok (.newarray .int, 2) := by decide +kernel
theorem dX7_init_84 : decode cX7_init 84 = .ok (.putfield 31, 3) := by decide +kernel
theorem dX7_init_87 : decode cX7_init 87 = .ok (.aload_n 0, 1) := by decide +kernel
theorem dX7_init_88 : decode cX7_init 88 = .ok (.bipush 6, 2) := by decide +kernel
theorem dX7_init_90 : decode cX7_init 90 = .ok (.newarray .int, 2) := by decide +kernel
theorem dX7_init_92 : decode cX7_init 92 = .ok (.putfield 34, 3) := by decide +kernel
theorem dX7_init_95 : decode cX7_init 95 = .ok (.aload_n 0, 1) := by decide +kernel
theorem dX7_init_96 : decode cX7_init 96 = .ok (.bipush 18, 2) := by decide +kernel
theorem dX7_init_98 : decode cX7_init 98 = .ok (.newarray .int, 2) := by decide +kernel
theorem dX7_init_100 : decode cX7_init 100 = .ok (.putfield 37, 3) := by decide +kernel
theorem dX7_init_103 : decode cX7_init 103 = .ok (.aload_n 0, 1) := by decide +kernel
theorem dX7_init_104 : decode cX7_init 104 = .ok (.bipush 11, 2) := by decide +kernel
theorem dX7_init_106 : decode cX7_init 106 = .ok (.newarray .int, 2) := by decide +kernel
theorem dX7_init_108 : decode cX7_init 108 = .ok (.putfield 40, 3) := by decide +kernel
theorem dX7_init_111 : decode cX7_init 111 = .ok (.aload_n 0, 1) := by decide +kernel
theorem dX7_init_112 : decode cX7_init 112 = .ok (.bipush 60, 2) := by decide +kernel
theorem dX7_init_114 : decode cX7_init 114 = .ok (.newarray .int, 2) := by decide +kernel
theorem dX7_init_116 : decode cX7_init 116 = .ok (.putfield 43, 3) := by decide +kernel
theorem dX7_init_119 : decode cX7_init 119 = .ok (.aload_n 0, 1) := by decide +kernel
theorem dX7_init_120 : decode cX7_init 120 = .ok (.bipush 10, 2) := by decide +kernel
theorem dX7_init_122 : decode cX7_init 122 = .ok (.newarray .int, 2) := by decide +kernel
theorem dX7_init_124 : decode cX7_init 124 = .ok (.putfield 46, 3) := by decide +kernel
theorem dX7_init_127 : decode cX7_init 127 = .ok (.aload_n 0, 1) := by decide +kernel
theorem dX7_init_128 : decode cX7_init 128 = .ok (.bipush 6, 2) := by decide +kernel
theorem dX7_init_130 : decode cX7_init 130 = .ok (.newarray .int, 2) := by decide +kernel
theorem dX7_init_132 : decode cX7_init 132 = .ok (.putfield 49, 3) := by decide +kernel
theorem dX7_init_135 : decode cX7_init 135 = .ok (.aload_n 0, 1) := by decide +kernel
theorem dX7_init_136 : decode cX7_init 136 = .ok (.bipush 6, 2) := by decide +kernel
theorem dX7_init_138 : decode cX7_init 138 = .ok (.newarray .boolean, 2) := by decide +kernel
theorem dX7_init_140 : decode cX7_init 140 = .ok (.putfield 52, 3) := by decide +kernel
theorem dX7_init_143 : decode cX7_init 143 = .ok (.aload_n 0, 1) := by decide +kernel
theorem dX7_init_144 : decode cX7_init 144 = .ok (.bipush (-9), 2) := by decide +kernel
theorem dX7_init_146 : decode cX7_init 146 = .ok (.putfield 56, 3) := by decide +kernel
theorem dX7_init_149 : decode cX7_init 149 = .ok (.aload_n 0, 1) := by decide +kernel
theorem dX7_init_150 : decode cX7_init 150 = .ok (.bipush 10, 2) := by decide +kernel
theorem dX7_init_152 : decode cX7_init 152 = .ok (.newarray .int, 2) := by decide +kernel
theorem dX7_init_154 : decode cX7_init 154 = .ok (.putfield 60, 3) := by decide +kernel
theorem dX7_init_157 : decode cX7_init 157 = .ok (.aload_n 0, 1) := by decide +kernel
theorem dX7_init_158 : decode cX7_init 158 = .ok (.bipush 8, 2) := by decide +kernel
theorem dX7_init_160 : decode cX7_init 160 = .ok (.newarray .int, 2) := by decide +kernel
theorem dX7_init_162 : decode cX7_init 162 = .ok (.putfield 63, 3) := by decide +kernel
theorem dX7_init_165 : decode cX7_init 165 = .ok (.aload_n 0, 1) := by decide +kernel
theorem dX7_init_166 : decode cX7_init 166 = .ok (.bipush 8, 2) := by decide +kernel
theorem dX7_init_168 : decode cX7_init 168 = .ok (.newarray .int, 2) := by decide +kernel
theorem dX7_init_170 : decode cX7_init 170 = .ok (.putfield 66, 3) := by decide +kernel
theorem dX7_init_173 : decode cX7_init 173 = .ok (.return_, 1) := by decide +kernel
theorem dX7_fails_0 : decode cX7_fails 0 = .ok (.aload_n 0, 1) := by decide +kernel
theorem dX7_fails_1 : decode cX7_fails 1 = .ok (.iload_n 1, 1) := by decide +kernel
theorem dX7_fails_2 : decode cX7_fails 2 = .ok (.putfield 69, 3) := by decide +kernel
theorem dX7_fails_5 : decode cX7_fails 5 = .ok (.bipush (-10), 2) := by decide +kernel
theorem dX7_fails_7 : decode cX7_fails 7 = .ok (.iload_n 1, 1) := by decide +kernel
theorem dX7_fails_8 : decode cX7_fails 8 = .ok (.isub, 1) := by decide +kernel
theorem dX7_fails_9 : decode cX7_fails 9 = .ok (.ireturn, 1) := by decide +kernel
theorem dX7_lost_0 : decode cX7_lost 0 = .ok (.aload_n 0, 1) := by decide +kernel
theorem dX7_lost_1 : decode cX7_lost 1 = .ok (.iload_n 1, 1) := by decide +kernel
theorem dX7_lost_2 : decode cX7_lost 2 = .ok (.putfield 69, 3) := by decide +kernel
theorem dX7_lost_5 : decode cX7_lost 5 = .ok (.ldc2_w 72, 3) := by decide +kernel
theorem dX7_lost_8 : decode cX7_lost 8 = .ok (.lreturn, 1) := by decide +kernel
theorem dX7_within_0 : decode cX7_within 0 = .ok (.iload_n 0, 1) := by decide +kernel
theorem dX7_within_1 : decode cX7_within 1 = .ok (.iload_n 1, 1) := by decide +kernel
theorem dX7_within_2 : decode cX7_within 2 = .ok (.if_icmp .lt 12, 3) := by decide +kernel
theorem dX7_within_5 : decode cX7_within 5 = .ok (.iload_n 0, 1) := by decide +kernel
theorem dX7_within_6 : decode cX7_within 6 = .ok (.iload_n 2, 1) := by decide +kernel
theorem dX7_within_7 : decode cX7_within 7 = .ok (.if_icmp .gt 7, 3) := by decide +kernel
theorem dX7_within_10 : decode cX7_within 10 = .ok (.iconst 1, 1) := by decide +kernel
theorem dX7_within_11 : decode cX7_within 11 = .ok (.goto 4, 3) := by decide +kernel
theorem dX7_within_14 : decode cX7_within 14 = .ok (.iconst 0, 1) := by decide +kernel
theorem dX7_within_15 : decode cX7_within 15 = .ok (.ireturn, 1) := by decide +kernel
theorem dX7_isSheet_0 : decode cX7_isSheet 0 = .ok (.iload_n 0, 1) := by decide +kernel
theorem dX7_isSheet_1 : decode cX7_isSheet 1 = .ok (.iconst 0, 1) := by decide +kernel
theorem dX7_isSheet_2 : decode cX7_isSheet 2 = .ok (.iconst 3, 1) := by decide +kernel
theorem dX7_isSheet_3 : decode cX7_isSheet 3 = .ok (.invokestatic 74, 3) := by decide +kernel
theorem dX7_isSheet_6 : decode cX7_isSheet 6 = .ok (.ireturn, 1) := by decide +kernel
theorem dX7_isSort_0 : decode cX7_isSort 0 = .ok (.iload_n 0, 1) := by decide +kernel
theorem dX7_isSort_1 : decode cX7_isSort 1 = .ok (.iconst 0, 1) := by decide +kernel
theorem dX7_isSort_2 : decode cX7_isSort 2 = .ok (.iconst 2, 1) := by decide +kernel
theorem dX7_isSort_3 : decode cX7_isSort 3 = .ok (.invokestatic 74, 3) := by decide +kernel
theorem dX7_isSort_6 : decode cX7_isSort 6 = .ok (.ireturn, 1) := by decide +kernel
theorem dX7_against_0 : decode cX7_against 0 = .ok (.aload_n 0, 1) := by decide +kernel
theorem dX7_against_1 : decode cX7_against 1 = .ok (.getfield 9, 3) := by decide +kernel
theorem dX7_against_4 : decode cX7_against 4 = .ok (.iload_n 1, 1) := by decide +kernel
theorem dX7_against_5 : decode cX7_against 5 = .ok (.iaload, 1) := by decide +kernel
theorem dX7_against_6 : decode cX7_against 6 = .ok (.bipush (-9), 2) := by decide +kernel
theorem dX7_against_8 : decode cX7_against 8 = .ok (.if_icmp .eq 15, 3) := by decide +kernel
theorem dX7_against_11 : decode cX7_against 11 = .ok (.aload_n 0, 1) := by decide +kernel
theorem dX7_against_12 : decode cX7_against 12 = .ok (.getfield 9, 3) := by decide +kernel
theorem dX7_against_15 : decode cX7_against 15 = .ok (.iload_n 1, 1) := by decide +kernel
theorem dX7_against_16 : decode cX7_against 16 = .ok (.iaload, 1) := by decide +kernel
theorem dX7_against_17 : decode cX7_against 17 = .ok (.iload_n 2, 1) := by decide +kernel
theorem dX7_against_18 : decode cX7_against 18 = .ok (.if_icmp .eq 5, 3) := by decide +kernel
theorem dX7_against_21 : decode cX7_against 21 = .ok (.iconst 2, 1) := by decide +kernel
theorem dX7_against_22 : decode cX7_against 22 = .ok (.ireturn, 1) := by decide +kernel
theorem dX7_against_23 : decode cX7_against 23 = .ok (.aload_n 0, 1) := by decide +kernel
theorem dX7_against_24 : decode cX7_against 24 = .ok (.getfield 9, 3) := by decide +kernel
theorem dX7_against_27 : decode cX7_against 27 = .ok (.iload_n 1, 1) := by decide +kernel
theorem dX7_against_28 : decode cX7_against 28 = .ok (.iaload, 1) := by decide +kernel
theorem dX7_against_29 : decode cX7_against 29 = .ok (.bipush (-9), 2) := by decide +kernel
theorem dX7_against_31 : decode cX7_against 31 = .ok (.if_icmp .ne 5, 3) := by decide +kernel
theorem dX7_against_34 : decode cX7_against 34 = .ok (.iconst 1, 1) := by decide +kernel
theorem dX7_against_35 : decode cX7_against 35 = .ok (.ireturn, 1) := by decide +kernel
theorem dX7_against_36 : decode cX7_against 36 = .ok (.iload 4, 2) := by decide +kernel
theorem dX7_against_38 : decode cX7_against 38 = .ok (.ifCond .ge 5, 3) := by decide +kernel
theorem dX7_against_41 : decode cX7_against 41 = .ok (.iconst 4, 1) := by decide +kernel
theorem dX7_against_42 : decode cX7_against 42 = .ok (.ireturn, 1) := by decide +kernel
theorem dX7_against_43 : decode cX7_against 43 = .ok (.iload_n 3, 1) := by decide +kernel
theorem dX7_against_44 : decode cX7_against 44 = .ok (.ifCond .lt 26, 3) := by decide +kernel
theorem dX7_against_47 : decode cX7_against 47 = .ok (.iload_n 3, 1) := by decide +kernel
theorem dX7_against_48 : decode cX7_against 48 = .ok (.aload_n 0, 1) := by decide +kernel
theorem dX7_against_49 : decode cX7_against 49 = .ok (.getfield 13, 3) := by decide +kernel
theorem dX7_against_52 : decode cX7_against 52 = .ok (.iload_n 1, 1) := by decide +kernel
theorem dX7_against_53 : decode cX7_against 53 = .ok (.iaload, 1) := by decide +kernel
theorem dX7_against_54 : decode cX7_against 54 = .ok (.if_icmp .gt 16, 3) := by decide +kernel
theorem dX7_against_57 : decode cX7_against 57 = .ok (.iload 4, 2) := by decide +kernel
theorem dX7_against_59 : decode cX7_against 59 = .ok (.aload_n 0, 1) := by decide +kernel
theorem dX7_against_60 : decode cX7_against 60 = .ok (.getfield 13, 3) := by decide +kernel
theorem dX7_against_63 : decode cX7_against 63 = .ok (.iload_n 1, 1) := by decide +kernel
theorem dX7_against_64 : decode cX7_against 64 = .ok (.iaload, 1) := by decide +kernel
theorem dX7_against_65 : decode cX7_against 65 = .ok (.iload_n 3, 1) := by decide +kernel
theorem dX7_against_66 : decode cX7_against 66 = .ok (.isub, 1) := by decide +kernel
theorem dX7_against_67 : decode cX7_against 67 = .ok (.if_icmp .le 7, 3) := by decide +kernel
theorem dX7_against_70 : decode cX7_against 70 = .ok (.iconst 3, 1) := by decide +kernel
theorem dX7_against_71 : decode cX7_against 71 = .ok (.goto 4, 3) := by decide +kernel
theorem dX7_against_74 : decode cX7_against 74 = .ok (.iconst 0, 1) := by decide +kernel
theorem dX7_against_75 : decode cX7_against 75 = .ok (.ireturn, 1) := by decide +kernel
theorem dX7_isTap_0 : decode cX7_isTap 0 = .ok (.iload_n 1, 1) := by decide +kernel
theorem dX7_isTap_1 : decode cX7_isTap 1 = .ok (.ifCond .lt 15, 3) := by decide +kernel
theorem dX7_isTap_4 : decode cX7_isTap 4 = .ok (.iload_n 1, 1) := by decide +kernel
theorem dX7_isTap_5 : decode cX7_isTap 5 = .ok (.aload_n 0, 1) := by decide +kernel
theorem dX7_isTap_6 : decode cX7_isTap 6 = .ok (.getfield 78, 3) := by decide +kernel
theorem dX7_isTap_9 : decode cX7_isTap 9 = .ok (.if_icmp .ge 7, 3) := by decide +kernel
theorem dX7_isTap_12 : decode cX7_isTap 12 = .ok (.iconst 1, 1) := by decide +kernel
theorem dX7_isTap_13 : decode cX7_isTap 13 = .ok (.goto 4, 3) := by decide +kernel
theorem dX7_isTap_16 : decode cX7_isTap 16 = .ok (.iconst 0, 1) := by decide +kernel
theorem dX7_isTap_17 : decode cX7_isTap 17 = .ok (.ireturn, 1) := by decide +kernel
theorem dX7_isDay_0 : decode cX7_isDay 0 = .ok (.iload_n 0, 1) := by decide +kernel
theorem dX7_isDay_1 : decode cX7_isDay 1 = .ok (.iconst 0, 1) := by decide +kernel
theorem dX7_isDay_2 : decode cX7_isDay 2 = .ok (.bipush 9, 2) := by decide +kernel
theorem dX7_isDay_4 : decode cX7_isDay 4 = .ok (.invokestatic 74, 3) := by decide +kernel
theorem dX7_isDay_7 : decode cX7_isDay 7 = .ok (.ireturn, 1) := by decide +kernel
theorem dX7_digitAt_0 : decode cX7_digitAt 0 = .ok (.iload_n 1, 1) := by decide +kernel
theorem dX7_digitAt_1 : decode cX7_digitAt 1 = .ok (.iload_n 2, 1) := by decide +kernel
theorem dX7_digitAt_2 : decode cX7_digitAt 2 = .ok (.if_icmp .ge 33, 3) := by decide +kernel
theorem dX7_digitAt_5 : decode cX7_digitAt 5 = .ok (.aload_n 0, 1) := by decide +kernel
theorem dX7_digitAt_6 : decode cX7_digitAt 6 = .ok (.getfield 16, 3) := by decide +kernel
theorem dX7_digitAt_9 : decode cX7_digitAt 9 = .ok (.iload_n 1, 1) := by decide +kernel
theorem dX7_digitAt_10 : decode cX7_digitAt 10 = .ok (.iaload, 1) := by decide +kernel
theorem dX7_digitAt_11 : decode cX7_digitAt 11 = .ok (.bipush 48, 2) := by decide +kernel
theorem dX7_digitAt_13 : decode cX7_digitAt 13 = .ok (.iload_n 3, 1) := by decide +kernel
theorem dX7_digitAt_14 : decode cX7_digitAt 14 = .ok (.iadd, 1) := by decide +kernel
theorem dX7_digitAt_15 : decode cX7_digitAt 15 = .ok (.bipush 57, 2) := by decide +kernel
theorem dX7_digitAt_17 : decode cX7_digitAt 17 = .ok (.invokestatic 74, 3) := by decide +kernel
theorem dX7_digitAt_20 : decode cX7_digitAt 20 = .ok (.ifCond .eq 15, 3) := by decide +kernel
theorem dX7_digitAt_23 : decode cX7_digitAt 23 = .ok (.aload_n 0, 1) := by decide +kernel
theorem dX7_digitAt_24 : decode cX7_digitAt 24 = .ok (.getfield 16, 3) := by decide +kernel
theorem dX7_digitAt_27 : decode cX7_digitAt 27 = .ok (.iload_n 1, 1) := by decide +kernel
theorem dX7_digitAt_28 : decode cX7_digitAt 28 = .ok (.iaload, 1) := by decide +kernel
theorem dX7_digitAt_29 : decode cX7_digitAt 29 = .ok (.bipush 48, 2) := by decide +kernel
theorem dX7_digitAt_31 : decode cX7_digitAt 31 = .ok (.isub, 1) := by decide +kernel
theorem dX7_digitAt_32 : decode cX7_digitAt 32 = .ok (.goto 5, 3) := by decide +kernel
theorem dX7_digitAt_35 : decode cX7_digitAt 35 = .ok (.bipush (-9), 2) := by decide +kernel
theorem dX7_digitAt_37 : decode cX7_digitAt 37 = .ok (.ireturn, 1) := by decide +kernel
theorem dX7_yard_0 : decode cX7_yard 0 = .ok (.aload_n 0, 1) := by decide +kernel
theorem dX7_yard_1 : decode cX7_yard 1 = .ok (.iconst 0, 1) := by decide +kernel
theorem dX7_yard_2 : decode cX7_yard 2 = .ok (.putfield 69, 3) := by decide +kernel
theorem dX7_yard_5 : decode cX7_yard 5 = .ok (.iload_n 1, 1) := by decide +kernel
theorem dX7_yard_6 : decode cX7_yard 6 = .ok (.invokestatic 81, 3) := by decide +kernel
theorem dX7_yard_9 : decode cX7_yard 9 = .ok (.ifCond .ne 5, 3) := by decide +kernel
theorem dX7_yard_12 : decode cX7_yard 12 = .ok (.iconst (-1), 1) := by decide +kernel
theorem dX7_yard_13 : decode cX7_yard 13 = .ok (.ireturn, 1) := by decide +kernel
theorem dX7_yard_14 : decode cX7_yard 14 = .ok (.iload_n 2, 1) := by decide +kernel
theorem dX7_yard_15 : decode cX7_yard 15 = .ok (.invokestatic 85, 3) := by decide +kernel
theorem dX7_yard_18 : decode cX7_yard 18 = .ok (.ifCond .ne 6, 3) := by decide +kernel
theorem dX7_yard_21 : decode cX7_yard 21 = .ok (.bipush (-2), 2) := by decide +kernel
theorem dX7_yard_23 : decode cX7_yard 23 = .ok (.ireturn, 1) := by decide +kernel
theorem dX7_yard_24 : decode cX7_yard 24 = .ok (.aload_n 0, 1) := by decide +kernel
theorem dX7_yard_25 : decode cX7_yard 25 = .ok (.iload_n 1, 1) := by decide +kernel
theorem dX7_yard_26 : decode cX7_yard 26 = .ok (.iload_n 2, 1) := by decide +kernel
theorem dX7_yard_27 : decode cX7_yard 27 = .ok (.iload_n 3, 1) := by decide +kernel
theorem dX7_yard_28 : decode cX7_yard 28 = .ok (.iload 4, 2) := by decide +kernel
theorem dX7_yard_30 : decode cX7_yard 30 = .ok (.invokevirtual 88, 3) := by decide +kernel
theorem dX7_yard_33 : decode cX7_yard 33 = .ok (.istore 5, 2) := by decide +kernel
theorem dX7_yard_35 : decode cX7_yard 35 = .ok (.iload 5, 2) := by decide +kernel
theorem dX7_yard_37 : decode cX7_yard 37 = .ok (.ifCond .eq 10, 3) := by decide +kernel
theorem dX7_yard_40 : decode cX7_yard 40 = .ok (.aload_n 0, 1) := by decide +kernel
theorem dX7_yard_41 : decode cX7_yard 41 = .ok (.iload 5, 2) := by decide +kernel
theorem dX7_yard_43 : decode cX7_yard 43 = .ok (.invokevirtual 92, 3) := by decide +kernel
theorem dX7_yard_46 : decode cX7_yard 46 = .ok (.ireturn, 1) := by decide +kernel
theorem dX7_yard_47 : decode cX7_yard 47 = .ok (.bipush 60, 2) := by decide +kernel
theorem dX7_yard_49 : decode cX7_yard 49 = .ok (.iload_n 1, 1) := by decide +kernel
theorem dX7_yard_50 : decode cX7_yard 50 = .ok (.imul, 1) := by decide +kernel
theorem dX7_yard_51 : decode cX7_yard 51 = .ok (.iload_n 3, 1) := by decide +kernel
theorem dX7_yard_52 : decode cX7_yard 52 = .ok (.iadd, 1) := by decide +kernel
theorem dX7_yard_53 : decode cX7_yard 53 = .ok (.istore 6, 2) := by decide +kernel
theorem dX7_yard_55 : decode cX7_yard 55 = .ok (.aload_n 0, 1) := by decide +kernel
theorem dX7_yard_56 : decode cX7_yard 56 = .ok (.iload 6, 2) := by decide +kernel
theorem dX7_yard_58 : decode cX7_yard 58 = .ok (.putfield 96, 3) := by decide +kernel
theorem dX7_yard_61 : decode cX7_yard 61 = .ok (.aload_n 0, 1) := by decide +kernel
theorem dX7_yard_62 : decode cX7_yard 62 = .ok (.iload 6, 2) := by decide +kernel
theorem dX7_yard_64 : decode cX7_yard 64 = .ok (.iload 4, 2) := by decide +kernel
theorem dX7_yard_66 : decode cX7_yard 66 = .ok (.iadd, 1) := by decide +kernel
theorem dX7_yard_67 : decode cX7_yard 67 = .ok (.invokevirtual 99, 3) := by decide +kernel
theorem dX7_yard_70 : decode cX7_yard 70 = .ok (.ifCond .ne 14, 3) := by decide +kernel
theorem dX7_yard_73 : decode cX7_yard 73 = .ok (.bipush (-100), 2) := by decide +kernel
theorem dX7_yard_75 : decode cX7_yard 75 = .ok (.aload_n 0, 1) := by decide +kernel
theorem dX7_yard_76 : decode cX7_yard 76 = .ok (.getfield 96, 3) := by decide +kernel
theorem dX7_yard_79 : decode cX7_yard 79 = .ok (.iload 6, 2) := by decide +kernel
theorem dX7_yard_81 : decode cX7_yard 81 = .ok (.isub, 1) := by decide +kernel
theorem dX7_yard_82 : decode cX7_yard 82 = .ok (.isub, 1) := by decide +kernel
theorem dX7_yard_83 : decode cX7_yard 83 = .ok (.ireturn, 1) := by decide +kernel
theorem dX7_yard_84 : decode cX7_yard 84 = .ok (.aload_n 0, 1) := by decide +kernel
theorem dX7_yard_85 : decode cX7_yard 85 = .ok (.aload_n 0, 1) := by decide +kernel
theorem dX7_yard_86 : decode cX7_yard 86 = .ok (.getfield 102, 3) := by decide +kernel
theorem dX7_yard_89 : decode cX7_yard 89 = .ok (.putfield 105, 3) := by decide +kernel
theorem dX7_yard_92 : decode cX7_yard 92 = .ok (.aload_n 0, 1) := by decide +kernel
theorem dX7_yard_93 : decode cX7_yard 93 = .ok (.aload_n 0, 1) := by decide +kernel
theorem dX7_yard_94 : decode cX7_yard 94 = .ok (.getfield 108, 3) := by decide +kernel
theorem dX7_yard_97 : decode cX7_yard 97 = .ok (.putfield 111, 3) := by decide +kernel
theorem dX7_yard_100 : decode cX7_yard 100 = .ok (.aload_n 0, 1) := by decide +kernel
theorem dX7_yard_101 : decode cX7_yard 101 = .ok (.aload_n 0, 1) := by decide +kernel
theorem dX7_yard_102 : decode cX7_yard 102 = .ok (.getfield 114, 3) := by decide +kernel
theorem dX7_yard_105 : decode cX7_yard 105 = .ok (.putfield 78, 3) := by decide +kernel
theorem dX7_yard_108 : decode cX7_yard 108 = .ok (.iconst 0, 1) := by decide +kernel
theorem dX7_yard_109 : decode cX7_yard 109 = .ok (.istore 7, 2) := by decide +kernel
theorem dX7_yard_111 : decode cX7_yard 111 = .ok (.iload 7, 2) := by decide +kernel
theorem dX7_yard_113 : decode cX7_yard 113 = .ok (.aload_n 0, 1) := by decide +kernel
theorem dX7_yard_114 : decode cX7_yard 114 = .ok (.getfield 78, 3) := by decide +kernel
theorem dX7_yard_117 : decode cX7_yard 117 = .ok (.if_icmp .ge 75, 3) := by decide +kernel
theorem dX7_yard_120 : decode cX7_yard 120 = .ok (.aload_n 0, 1) := by decide +kernel
theorem dX7_yard_121 : decode cX7_yard 121 = .ok (.getfield 19, 3) := by decide +kernel
theorem dX7_yard_124 : decode cX7_yard 124 = .ok (.iload 7, 2) := by decide +kernel
theorem dX7_yard_126 : decode cX7_yard 126 = .ok (.aload_n 0, 1) := by decide +kernel
theorem dX7_yard_127 : decode cX7_yard 127 = .ok (.getfield 34, 3) := by decide +kernel
theorem dX7_yard_130 : decode cX7_yard 130 = .ok (.iload 7, 2) := by decide +kernel
theorem dX7_yard_132 : decode cX7_yard 132 = .ok (.iaload, 1) := by decide +kernel
theorem dX7_yard_133 : decode cX7_yard 133 = .ok (.iastore, 1) := by decide +kernel
theorem dX7_yard_134 : decode cX7_yard 134 = .ok (.aload_n 0, 1) := by decide +kernel
theorem dX7_yard_135 : decode cX7_yard 135 = .ok (.getfield 22, 3) := by decide +kernel
theorem dX7_yard_138 : decode cX7_yard 138 = .ok (.iload 7, 2) := by decide +kernel
theorem dX7_yard_140 : decode cX7_yard 140 = .ok (.aload_n 0, 1) := by decide +kernel
theorem dX7_yard_141 : decode cX7_yard 141 = .ok (.getfield 37, 3) := by decide +kernel
theorem dX7_yard_144 : decode cX7_yard 144 = .ok (.iconst 3, 1) := by decide +kernel
theorem dX7_yard_145 : decode cX7_yard 145 = .ok (.iload 7, 2) := by decide +kernel
theorem dX7_yard_147 : decode cX7_yard 147 = .ok (.imul, 1) := by decide +kernel
theorem dX7_yard_148 : decode cX7_yard 148 = .ok (.iaload, 1) := by decide +kernel
theorem dX7_yard_149 : decode cX7_yard 149 = .ok (.iastore, 1) := by decide +kernel
theorem dX7_yard_150 : decode cX7_yard 150 = .ok (.aload_n 0, 1) := by decide +kernel
theorem dX7_yard_151 : decode cX7_yard 151 = .ok (.getfield 25, 3) := by decide +kernel
theorem dX7_yard_154 : decode cX7_yard 154 = .ok (.iload 7, 2) := by decide +kernel
theorem dX7_yard_156 : decode cX7_yard 156 = .ok (.aload_n 0, 1) := by decide +kernel
theorem dX7_yard_157 : decode cX7_yard 157 = .ok (.getfield 37, 3) := by decide +kernel
theorem dX7_yard_160 : decode cX7_yard 160 = .ok (.iconst 3, 1) := by decide +kernel
theorem dX7_yard_161 : decode cX7_yard 161 = .ok (.iload 7, 2) := by decide +kernel
theorem dX7_yard_163 : decode cX7_yard 163 = .ok (.imul, 1) := by decide +kernel
theorem dX7_yard_164 : decode cX7_yard 164 = .ok (.iconst 1, 1) := by decide +kernel
theorem dX7_yard_165 : decode cX7_yard 165 = .ok (.iadd, 1) := by decide +kernel
theorem dX7_yard_166 : decode cX7_yard 166 = .ok (.iaload, 1) := by decide +kernel
theorem dX7_yard_167 : decode cX7_yard 167 = .ok (.iastore, 1) := by decide +kernel
theorem dX7_yard_168 : decode cX7_yard 168 = .ok (.aload_n 0, 1) := by decide +kernel
theorem dX7_yard_169 : decode cX7_yard 169 = .ok (.getfield 28, 3) := by decide +kernel
theorem dX7_yard_172 : decode cX7_yard 172 = .ok (.iload 7, 2) := by decide +kernel
theorem dX7_yard_174 : decode cX7_yard 174 = .ok (.aload_n 0, 1) := by decide +kernel
theorem dX7_yard_175 : decode cX7_yard 175 = .ok (.getfield 37, 3) := by decide +kernel
theorem dX7_yard_178 : decode cX7_yard 178 = .ok (.iconst 3, 1) := by decide +kernel
theorem dX7_yard_179 : decode cX7_yard 179 = .ok (.iload 7, 2) := by decide +kernel
theorem dX7_yard_181 : decode cX7_yard 181 = .ok (.imul, 1) := by decide +kernel
theorem dX7_yard_182 : decode cX7_yard 182 = .ok (.iconst 2, 1) := by decide +kernel
theorem dX7_yard_183 : decode cX7_yard 183 = .ok (.iadd, 1) := by decide +kernel
theorem dX7_yard_184 : decode cX7_yard 184 = .ok (.iaload, 1) := by decide +kernel
theorem dX7_yard_185 : decode cX7_yard 185 = .ok (.iastore, 1) := by decide +kernel
theorem dX7_yard_186 : decode cX7_yard 186 = .ok (.iinc 7 1, 3) := by decide +kernel
theorem dX7_yard_189 : decode cX7_yard 189 = .ok (.goto (-78), 3) := by decide +kernel
theorem dX7_yard_192 : decode cX7_yard 192 = .ok (.iconst 0, 1) := by decide +kernel
theorem dX7_yard_193 : decode cX7_yard 193 = .ok (.istore 7, 2) := by decide +kernel
theorem dX7_yard_195 : decode cX7_yard 195 = .ok (.iload 7, 2) := by decide +kernel
theorem dX7_yard_197 : decode cX7_yard 197 = .ok (.bipush 10, 2) := by decide +kernel
theorem dX7_yard_199 : decode cX7_yard 199 = .ok (.if_icmp .ge 17, 3) := by decide +kernel
theorem dX7_yard_202 : decode cX7_yard 202 = .ok (.aload_n 0, 1) := by decide +kernel
theorem dX7_yard_203 : decode cX7_yard 203 = .ok (.getfield 31, 3) := by decide +kernel
theorem dX7_yard_206 : decode cX7_yard 206 = .ok (.iload 7, 2) := by decide +kernel
theorem dX7_yard_208 : decode cX7_yard 208 = .ok (.iconst 0, 1) := by decide +kernel
theorem dX7_yard_209 : decode cX7_yard 209 = .ok (.iastore, 1) := by decide +kernel
theorem dX7_yard_210 : decode cX7_yard 210 = .ok (.iinc 7 1, 3) := by decide +kernel
theorem dX7_yard_213 : decode cX7_yard 213 = .ok (.goto (-18), 3) := by decide +kernel
theorem dX7_yard_216 : decode cX7_yard 216 = .ok (.aload_n 0, 1) := by decide +kernel
theorem dX7_yard_217 : decode cX7_yard 217 = .ok (.iconst 0, 1) := by decide +kernel
theorem dX7_yard_218 : decode cX7_yard 218 = .ok (.putfield 117, 3) := by decide +kernel
theorem dX7_yard_221 : decode cX7_yard 221 = .ok (.aload_n 0, 1) := by decide +kernel
theorem dX7_yard_222 : decode cX7_yard 222 = .ok (.iconst 0, 1) := by decide +kernel
theorem dX7_yard_223 : decode cX7_yard 223 = .ok (.putfield 120, 3) := by decide +kernel
theorem dX7_yard_226 : decode cX7_yard 226 = .ok (.aload_n 0, 1) := by decide +kernel
theorem dX7_yard_227 : decode cX7_yard 227 = .ok (.iconst 0, 1) := by decide +kernel
theorem dX7_yard_228 : decode cX7_yard 228 = .ok (.putfield 123, 3) := by decide +kernel
theorem dX7_yard_231 : decode cX7_yard 231 = .ok (.aload_n 0, 1) := by decide +kernel
theorem dX7_yard_232 : decode cX7_yard 232 = .ok (.iconst 0, 1) := by decide +kernel
theorem dX7_yard_233 : decode cX7_yard 233 = .ok (.putfield 126, 3) := by decide +kernel
theorem dX7_yard_236 : decode cX7_yard 236 = .ok (.aload_n 0, 1) := by decide +kernel
theorem dX7_yard_237 : decode cX7_yard 237 = .ok (.iconst 0, 1) := by decide +kernel
theorem dX7_yard_238 : decode cX7_yard 238 = .ok (.putfield 129, 3) := by decide +kernel
theorem dX7_yard_241 : decode cX7_yard 241 = .ok (.aload_n 0, 1) := by decide +kernel
theorem dX7_yard_242 : decode cX7_yard 242 = .ok (.getfield 78, 3) := by decide +kernel
theorem dX7_yard_245 : decode cX7_yard 245 = .ok (.ireturn, 1) := by decide +kernel
theorem dX7_readYard_0 : decode cX7_readYard 0 = .ok (.aload_n 0, 1) := by decide +kernel
theorem dX7_readYard_1 : decode cX7_readYard 1 = .ok (.getfield 96, 3) := by decide +kernel
theorem dX7_readYard_4 : decode cX7_readYard 4 = .ok (.iload_n 1, 1) := by decide +kernel
theorem dX7_readYard_5 : decode cX7_readYard 5 = .ok (.if_icmp .ge 17, 3) := by decide +kernel
theorem dX7_readYard_8 : decode cX7_readYard 8 = .ok (.aload_n 0, 1) := by decide +kernel
theorem dX7_readYard_9 : decode cX7_readYard 9 = .ok (.getfield 16, 3) := by decide +kernel
theorem dX7_readYard_12 : decode cX7_readYard 12 = .ok (.aload_n 0, 1) := by decide +kernel
theorem dX7_readYard_13 : decode cX7_readYard 13 = .ok (.getfield 96, 3) := by decide +kernel
theorem dX7_readYard_16 : decode cX7_readYard 16 = .ok (.iaload, 1) := by decide +kernel
theorem dX7_readYard_17 : decode cX7_readYard 17 = .ok (.bipush 121, 2) := by decide +kernel
theorem dX7_readYard_19 : decode cX7_readYard 19 = .ok (.if_icmp .eq 5, 3) := by decide +kernel
theorem dX7_readYard_22 : decode cX7_readYard 22 = .ok (.iconst 0, 1) := by decide +kernel
theorem dX7_readYard_23 : decode cX7_readYard 23 = .ok (.ireturn, 1) := by decide +kernel
theorem dX7_readYard_24 : decode cX7_readYard 24 = .ok (.aload_n 0, 1) := by decide +kernel
theorem dX7_readYard_25 : decode cX7_readYard 25 = .ok (.dup, 1) := by decide +kernel
theorem dX7_readYard_26 : decode cX7_readYard 26 = .ok (.getfield 96, 3) := by decide +kernel
theorem dX7_readYard_29 : decode cX7_readYard 29 = .ok (.iconst 1, 1) := by decide +kernel
theorem dX7_readYard_30 : decode cX7_readYard 30 = .ok (.iadd, 1) := by decide +kernel
theorem dX7_readYard_31 : decode cX7_readYard 31 = .ok (.putfield 96, 3) := by decide +kernel
theorem dX7_readYard_34 : decode cX7_readYard 34 = .ok (.aload_n 0, 1) := by decide +kernel
theorem dX7_readYard_35 : decode cX7_readYard 35 = .ok (.aload_n 0, 1) := by decide +kernel
theorem dX7_readYard_36 : decode cX7_readYard 36 = .ok (.getfield 96, 3) := by decide +kernel
theorem dX7_readYard_39 : decode cX7_readYard 39 = .ok (.iload_n 1, 1) := by decide +kernel
theorem dX7_readYard_40 : decode cX7_readYard 40 = .ok (.iconst 0, 1) := by decide +kernel
theorem dX7_readYard_41 : decode cX7_readYard 41 = .ok (.invokevirtual 132, 3) := by decide +kernel
theorem dX7_readYard_44 : decode cX7_readYard 44 = .ok (.istore_n 2, 1) := by decide +kernel
theorem dX7_readYard_45 : decode cX7_readYard 45 = .ok (.aload_n 0, 1) := by decide +kernel
theorem dX7_readYard_46 : decode cX7_readYard 46 = .ok (.aload_n 0, 1) := by decide +kernel
theorem dX7_readYard_47 : decode cX7_readYard 47 = .ok (.getfield 96, 3) := by decide +kernel
theorem dX7_readYard_50 : decode cX7_readYard 50 = .ok (.iconst 1, 1) := by decide +kernel
theorem dX7_readYard_51 : decode cX7_readYard 51 = .ok (.iadd, 1) := by decide +kernel
theorem dX7_readYard_52 : decode cX7_readYard 52 = .ok (.iload_n 1, 1) := by decide +kernel
theorem dX7_readYard_53 : decode cX7_readYard 53 = .ok (.iconst 0, 1) := by decide +kernel
theorem dX7_readYard_54 : decode cX7_readYard 54 = .ok (.invokevirtual 132, 3) := by decide +kernel
theorem dX7_readYard_57 : decode cX7_readYard 57 = .ok (.istore_n 3, 1) := by decide +kernel
theorem dX7_readYard_58 : decode cX7_readYard 58 = .ok (.iload_n 2, 1) := by decide +kernel
theorem dX7_readYard_59 : decode cX7_readYard 59 = .ok (.bipush (-9), 2) := by decide +kernel
theorem dX7_readYard_61 : decode cX7_readYard 61 = .ok (.if_icmp .eq 9, 3) := by decide +kernel
theorem dX7_readYard_64 : decode cX7_readYard 64 = .ok (.iload_n 3, 1) := by decide +kernel
theorem dX7_readYard_65 : decode cX7_readYard 65 = .ok (.bipush (-9), 2) := by decide +kernel
theorem dX7_readYard_67 : decode cX7_readYard 67 = .ok (.if_icmp .ne 25, 3) := by decide +kernel
theorem dX7_readYard_70 : decode cX7_readYard 70 = .ok (.aload_n 0, 1) := by decide +kernel
theorem dX7_readYard_71 : decode cX7_readYard 71 = .ok (.dup, 1) := by decide +kernel
theorem dX7_readYard_72 : decode cX7_readYard 72 = .ok (.getfield 96, 3) := by decide +kernel
theorem dX7_readYard_75 : decode cX7_readYard 75 = .ok (.iload_n 2, 1) := by decide +kernel
theorem dX7_readYard_76 : decode cX7_readYard 76 = .ok (.bipush (-9), 2) := by decide +kernel
theorem dX7_readYard_78 : decode cX7_readYard 78 = .ok (.if_icmp .ne 7, 3) := by decide +kernel
theorem dX7_readYard_81 : decode cX7_readYard 81 = .ok (.iconst 0, 1) := by decide +kernel
theorem dX7_readYard_82 : decode cX7_readYard 82 = .ok (.goto 4, 3) := by decide +kernel
theorem dX7_readYard_85 : decode cX7_readYard 85 = .ok (.iconst 1, 1) := by decide +kernel
theorem dX7_readYard_86 : decode cX7_readYard 86 = .ok (.iadd, 1) := by decide +kernel
theorem dX7_readYard_87 : decode cX7_readYard 87 = .ok (.putfield 96, 3) := by decide +kernel
theorem dX7_readYard_90 : decode cX7_readYard 90 = .ok (.iconst 0, 1) := by decide +kernel
theorem dX7_readYard_91 : decode cX7_readYard 91 = .ok (.ireturn, 1) := by decide +kernel
theorem dX7_readYard_92 : decode cX7_readYard 92 = .ok (.aload_n 0, 1) := by decide +kernel
theorem dX7_readYard_93 : decode cX7_readYard 93 = .ok (.bipush 10, 2) := by decide +kernel
theorem dX7_readYard_95 : decode cX7_readYard 95 = .ok (.iload_n 2, 1) := by decide +kernel
theorem dX7_readYard_96 : decode cX7_readYard 96 = .ok (.imul, 1) := by decide +kernel
theorem dX7_readYard_97 : decode cX7_readYard 97 = .ok (.iload_n 3, 1) := by decide +kernel
theorem dX7_readYard_98 : decode cX7_readYard 98 = .ok (.iadd, 1) := by decide +kernel
theorem dX7_readYard_99 : decode cX7_readYard 99 = .ok (.putfield 102, 3) := by decide +kernel
theorem dX7_readYard_102 : decode cX7_readYard 102 = .ok (.aload_n 0, 1) := by decide +kernel
theorem dX7_readYard_103 : decode cX7_readYard 103 = .ok (.getfield 102, 3) := by decide +kernel
theorem dX7_readYard_106 : decode cX7_readYard 106 = .ok (.ifCond .ne 5, 3) := by decide +kernel
theorem dX7_readYard_109 : decode cX7_readYard 109 = .ok (.iconst 0, 1) := by decide +kernel
theorem dX7_readYard_110 : decode cX7_readYard 110 = .ok (.ireturn, 1) := by decide +kernel
theorem dX7_readYard_111 : decode cX7_readYard 111 = .ok (.aload_n 0, 1) := by decide +kernel
theorem dX7_readYard_112 : decode cX7_readYard 112 = .ok (.dup, 1) := by decide +kernel
theorem dX7_readYard_113 : decode cX7_readYard 113 = .ok (.getfield 96, 3) := by decide +kernel
theorem dX7_readYard_116 : decode cX7_readYard 116 = .ok (.iconst 2, 1) := by decide +kernel
theorem dX7_readYard_117 : decode cX7_readYard 117 = .ok (.iadd, 1) := by decide +kernel
theorem dX7_readYard_118 : decode cX7_readYard 118 = .ok (.putfield 96, 3) := by decide +kernel
theorem dX7_readYard_121 : decode cX7_readYard 121 = .ok (.aload_n 0, 1) := by decide +kernel
theorem dX7_readYard_122 : decode cX7_readYard 122 = .ok (.aload_n 0, 1) := by decide +kernel
theorem dX7_readYard_123 : decode cX7_readYard 123 = .ok (.aload_n 0, 1) := by decide +kernel
theorem dX7_readYard_124 : decode cX7_readYard 124 = .ok (.getfield 96, 3) := by decide +kernel
theorem dX7_readYard_127 : decode cX7_readYard 127 = .ok (.iload_n 1, 1) := by decide +kernel
theorem dX7_readYard_128 : decode cX7_readYard 128 = .ok (.iconst 1, 1) := by decide +kernel
theorem dX7_readYard_129 : decode cX7_readYard 129 = .ok (.invokevirtual 132, 3) := by decide +kernel
theorem dX7_readYard_132 : decode cX7_readYard 132 = .ok (.putfield 108, 3) := by decide +kernel
theorem dX7_readYard_135 : decode cX7_readYard 135 = .ok (.aload_n 0, 1) := by decide +kernel
theorem dX7_readYard_136 : decode cX7_readYard 136 = .ok (.getfield 108, 3) := by decide +kernel
theorem dX7_readYard_139 : decode cX7_readYard 139 = .ok (.bipush (-9), 2) := by decide +kernel
theorem dX7_readYard_141 : decode cX7_readYard 141 = .ok (.if_icmp .ne 5, 3) := by decide +kernel
theorem dX7_readYard_144 : decode cX7_readYard 144 = .ok (.iconst 0, 1) := by decide +kernel
theorem dX7_readYard_145 : decode cX7_readYard 145 = .ok (.ireturn, 1) := by decide +kernel
theorem dX7_readYard_146 : decode cX7_readYard 146 = .ok (.aload_n 0, 1) := by decide +kernel
theorem dX7_readYard_147 : decode cX7_readYard 147 = .ok (.dup, 1) := by decide +kernel
theorem dX7_readYard_148 : decode cX7_readYard 148 = .ok (.getfield 96, 3) := by decide +kernel
theorem dX7_readYard_151 : decode cX7_readYard 151 = .ok (.iconst 1, 1) := by decide +kernel
theorem dX7_readYard_152 : decode cX7_readYard 152 = .ok (.iadd, 1) := by decide +kernel
theorem dX7_readYard_153 : decode cX7_readYard 153 = .ok (.putfield 96, 3) := by decide +kernel
theorem dX7_readYard_156 : decode cX7_readYard 156 = .ok (.aload_n 0, 1) := by decide +kernel
theorem dX7_readYard_157 : decode cX7_readYard 157 = .ok (.iconst 0, 1) := by decide +kernel
theorem dX7_readYard_158 : decode cX7_readYard 158 = .ok (.putfield 114, 3) := by decide +kernel
theorem dX7_readYard_161 : decode cX7_readYard 161 = .ok (.aload_n 0, 1) := by decide +kernel
theorem dX7_readYard_162 : decode cX7_readYard 162 = .ok (.getfield 114, 3) := by decide +kernel
theorem dX7_readYard_165 : decode cX7_readYard 165 = .ok (.ifCond .eq 11, 3) := by decide +kernel
theorem dX7_readYard_168 : decode cX7_readYard 168 = .ok (.aload_n 0, 1) := by decide +kernel
theorem dX7_readYard_169 : decode cX7_readYard 169 = .ok (.getfield 96, 3) := by decide +kernel
theorem dX7_readYard_172 : decode cX7_readYard 172 = .ok (.iload_n 1, 1) := by decide +kernel
theorem dX7_readYard_173 : decode cX7_readYard 173 = .ok (.if_icmp .ge 56, 3) := by decide +kernel
theorem dX7_readYard_176 : decode cX7_readYard 176 = .ok (.aload_n 0, 1) := by decide +kernel
theorem dX7_readYard_177 : decode cX7_readYard 177 = .ok (.getfield 114, 3) := by decide +kernel
theorem dX7_readYard_180 : decode cX7_readYard 180 = .ok (.bipush 6, 2) := by decide +kernel
theorem dX7_readYard_182 : decode cX7_readYard 182 = .ok (.if_icmp .eq 25, 3) := by decide +kernel
theorem dX7_readYard_185 : decode cX7_readYard 185 = .ok (.aload_n 0, 1) := by decide +kernel
theorem dX7_readYard_186 : decode cX7_readYard 186 = .ok (.getfield 96, 3) := by decide +kernel
theorem dX7_readYard_189 : decode cX7_readYard 189 = .ok (.iload_n 1, 1) := by decide +kernel
theorem dX7_readYard_190 : decode cX7_readYard 190 = .ok (.if_icmp .ge 17, 3) := by decide +kernel
theorem dX7_readYard_193 : decode cX7_readYard 193 = .ok (.aload_n 0, 1) := by decide +kernel
theorem dX7_readYard_194 : decode cX7_readYard 194 = .ok (.getfield 16, 3) := by decide +kernel
theorem dX7_readYard_197 : decode cX7_readYard 197 = .ok (.aload_n 0, 1) := by decide +kernel
theorem dX7_readYard_198 : decode cX7_readYard 198 = .ok (.getfield 96, 3) := by decide +kernel
theorem dX7_readYard_201 : decode cX7_readYard 201 = .ok (.iaload, 1) := by decide +kernel
theorem dX7_readYard_202 : decode cX7_readYard 202 = .ok (.bipush 59, 2) := by decide +kernel
theorem dX7_readYard_204 : decode cX7_readYard 204 = .ok (.if_icmp .eq 5, 3) := by decide +kernel
theorem dX7_readYard_207 : decode cX7_readYard 207 = .ok (.iconst 0, 1) := by decide +kernel
theorem dX7_readYard_208 : decode cX7_readYard 208 = .ok (.ireturn, 1) := by decide +kernel
theorem dX7_readYard_209 : decode cX7_readYard 209 = .ok (.aload_n 0, 1) := by decide +kernel
theorem dX7_readYard_210 : decode cX7_readYard 210 = .ok (.dup, 1) := by decide +kernel
theorem dX7_readYard_211 : decode cX7_readYard 211 = .ok (.getfield 96, 3) := by decide +kernel
theorem dX7_readYard_214 : decode cX7_readYard 214 = .ok (.iconst 1, 1) := by decide +kernel
theorem dX7_readYard_215 : decode cX7_readYard 215 = .ok (.iadd, 1) := by decide +kernel
theorem dX7_readYard_216 : decode cX7_readYard 216 = .ok (.putfield 96, 3) := by decide +kernel
theorem dX7_readYard_219 : decode cX7_readYard 219 = .ok (.aload_n 0, 1) := by decide +kernel
theorem dX7_readYard_220 : decode cX7_readYard 220 = .ok (.iload_n 1, 1) := by decide +kernel
theorem dX7_readYard_221 : decode cX7_readYard 221 = .ok (.invokevirtual 136, 3) := by decide +kernel
theorem dX7_readYard_224 : decode cX7_readYard 224 = .ok (.ifCond .ne (-63), 3) := by decide +kernel
theorem dX7_readYard_227 : decode cX7_readYard 227 = .ok (.iconst 0, 1) := by decide +kernel
theorem dX7_readYard_228 : decode cX7_readYard 228 = .ok (.ireturn, 1) := by decide +kernel
theorem dX7_readYard_229 : decode cX7_readYard 229 = .ok (.iconst 1, 1) := by decide +kernel
theorem dX7_readYard_230 : decode cX7_readYard 230 = .ok (.ireturn, 1) := by decide +kernel
theorem dX7_readTap_0 : decode cX7_readTap 0 = .ok (.aload_n 0, 1) := by decide +kernel
theorem dX7_readTap_1 : decode cX7_readTap 1 = .ok (.getfield 96, 3) := by decide +kernel
theorem dX7_readTap_4 : decode cX7_readTap 4 = .ok (.iload_n 1, 1) := by decide +kernel
theorem dX7_readTap_5 : decode cX7_readTap 5 = .ok (.if_icmp .ge 15, 3) := by decide +kernel
theorem dX7_readTap_8 : decode cX7_readTap 8 = .ok (.aload_n 0, 1) := by decide +kernel
theorem dX7_readTap_9 : decode cX7_readTap 9 = .ok (.getfield 16, 3) := by decide +kernel
theorem dX7_readTap_12 : decode cX7_readTap 12 = .ok (.aload_n 0, 1) := by decide +kernel
theorem dX7_readTap_13 : decode cX7_readTap 13 = .ok (.getfield 96, 3) := by decide +kernel
theorem dX7_readTap_16 : decode cX7_readTap 16 = .ok (.iaload, 1) := by decide +kernel
theorem dX7_readTap_17 : decode cX7_readTap 17 = .ok (.goto 4, 3) := by decide +kernel
theorem dX7_readTap_20 : decode cX7_readTap 20 = .ok (.iconst 0, 1) := by decide +kernel
theorem dX7_readTap_21 : decode cX7_readTap 21 = .ok (.istore_n 2, 1) := by decide +kernel
theorem dX7_readTap_22 : decode cX7_readTap 22 = .ok (.aload_n 0, 1) := by decide +kernel
theorem dX7_readTap_23 : decode cX7_readTap 23 = .ok (.getfield 34, 3) := by decide +kernel
theorem dX7_readTap_26 : decode cX7_readTap 26 = .ok (.aload_n 0, 1) := by decide +kernel
theorem dX7_readTap_27 : decode cX7_readTap 27 = .ok (.getfield 114, 3) := by decide +kernel
theorem dX7_readTap_30 : decode cX7_readTap 30 = .ok (.iload_n 2, 1) := by decide +kernel
theorem dX7_readTap_31 : decode cX7_readTap 31 = .ok (.bipush 102, 2) := by decide +kernel
theorem dX7_readTap_33 : decode cX7_readTap 33 = .ok (.if_icmp .ne 7, 3) := by decide +kernel
theorem dX7_readTap_36 : decode cX7_readTap 36 = .ok (.iconst 0, 1) := by decide +kernel
theorem dX7_readTap_37 : decode cX7_readTap 37 = .ok (.goto 25, 3) := by decide +kernel
theorem dX7_readTap_40 : decode cX7_readTap 40 = .ok (.iload_n 2, 1) := by decide +kernel
theorem dX7_readTap_41 : decode cX7_readTap 41 = .ok (.bipush 103, 2) := by decide +kernel
theorem dX7_readTap_43 : decode cX7_readTap 43 = .ok (.if_icmp .ne 7, 3) := by decide +kernel
theorem dX7_readTap_46 : decode cX7_readTap 46 = .ok (.iconst 1, 1) := by decide +kernel
theorem dX7_readTap_47 : decode cX7_readTap 47 = .ok (.goto 15, 3) := by decide +kernel
theorem dX7_readTap_50 : decode cX7_readTap 50 = .ok (.iload_n 2, 1) := by decide +kernel
theorem dX7_readTap_51 : decode cX7_readTap 51 = .ok (.bipush 111, 2) := by decide +kernel
theorem dX7_readTap_53 : decode cX7_readTap 53 = .ok (.if_icmp .ne 7, 3) := by decide +kernel
theorem dX7_readTap_56 : decode cX7_readTap 56 = .ok (.iconst 2, 1) := by decide +kernel
theorem dX7_readTap_57 : decode cX7_readTap 57 = .ok (.goto 5, 3) := by decide +kernel
theorem dX7_readTap_60 : decode cX7_readTap 60 = .ok (.bipush (-9), 2) := by decide +kernel
theorem dX7_readTap_62 : decode cX7_readTap 62 = .ok (.iastore, 1) := by decide +kernel
theorem dX7_readTap_63 : decode cX7_readTap 63 = .ok (.aload_n 0, 1) := by decide +kernel
theorem dX7_readTap_64 : decode cX7_readTap 64 = .ok (.getfield 34, 3) := by decide +kernel
theorem dX7_readTap_67 : decode cX7_readTap 67 = .ok (.aload_n 0, 1) := by decide +kernel
theorem dX7_readTap_68 : decode cX7_readTap 68 = .ok (.getfield 114, 3) := by decide +kernel
theorem dX7_readTap_71 : decode cX7_readTap 71 = .ok (.iaload, 1) := by decide +kernel
theorem dX7_readTap_72 : decode cX7_readTap 72 = .ok (.bipush (-9), 2) := by decide +kernel
theorem dX7_readTap_74 : decode cX7_readTap 74 = .ok (.if_icmp .ne 5, 3) := by decide +kernel
theorem dX7_readTap_77 : decode cX7_readTap 77 = .ok (.iconst 0, 1) := by decide +kernel
theorem dX7_readTap_78 : decode cX7_readTap 78 = .ok (.ireturn, 1) := by decide +kernel
theorem dX7_readTap_79 : decode cX7_readTap 79 = .ok (.aload_n 0, 1) := by decide +kernel
theorem dX7_readTap_80 : decode cX7_readTap 80 = .ok (.dup, 1) := by decide +kernel
theorem dX7_readTap_81 : decode cX7_readTap 81 = .ok (.getfield 96, 3) := by decide +kernel
theorem dX7_readTap_84 : decode cX7_readTap 84 = .ok (.iconst 1, 1) := by decide +kernel
theorem dX7_readTap_85 : decode cX7_readTap 85 = .ok (.iadd, 1) := by decide +kernel
theorem dX7_readTap_86 : decode cX7_readTap 86 = .ok (.putfield 96, 3) := by decide +kernel
theorem dX7_readTap_89 : decode cX7_readTap 89 = .ok (.iconst 0, 1) := by decide +kernel
theorem dX7_readTap_90 : decode cX7_readTap 90 = .ok (.istore_n 3, 1) := by decide +kernel
theorem dX7_readTap_91 : decode cX7_readTap 91 = .ok (.iload_n 3, 1) := by decide +kernel
theorem dX7_readTap_92 : decode cX7_readTap 92 = .ok (.iconst 3, 1) := by decide +kernel
theorem dX7_readTap_93 : decode cX7_readTap 93 = .ok (.if_icmp .ge 63, 3) := by decide +kernel
theorem dX7_readTap_96 : decode cX7_readTap 96 = .ok (.aload_n 0, 1) := by decide +kernel
theorem dX7_readTap_97 : decode cX7_readTap 97 = .ok (.aload_n 0, 1) := by decide +kernel
theorem dX7_readTap_98 : decode cX7_readTap 98 = .ok (.getfield 96, 3) := by decide +kernel
theorem dX7_readTap_101 : decode cX7_readTap 101 = .ok (.iload_n 1, 1) := by decide +kernel
theorem dX7_readTap_102 : decode cX7_readTap 102 = .ok (.iload_n 3, 1) := by decide +kernel
theorem dX7_readTap_103 : decode cX7_readTap 103 = .ok (.ifCond .ne 7, 3) := by decide +kernel
theorem dX7_readTap_106 : decode cX7_readTap 106 = .ok (.iconst 0, 1) := by decide +kernel
theorem dX7_readTap_107 : decode cX7_readTap 107 = .ok (.goto 4, 3) := by decide +kernel
theorem dX7_readTap_110 : decode cX7_readTap 110 = .ok (.iconst 1, 1) := by decide +kernel
theorem dX7_readTap_111 : decode cX7_readTap 111 = .ok (.invokevirtual 132, 3) := by decide +kernel
theorem dX7_readTap_114 : decode cX7_readTap 114 = .ok (.istore 4, 2) := by decide +kernel
theorem dX7_readTap_116 : decode cX7_readTap 116 = .ok (.iload 4, 2) := by decide +kernel
theorem dX7_readTap_118 : decode cX7_readTap 118 = .ok (.bipush (-9), 2) := by decide +kernel
theorem dX7_readTap_120 : decode cX7_readTap 120 = .ok (.if_icmp .ne 5, 3) := by decide +kernel
theorem dX7_readTap_123 : decode cX7_readTap 123 = .ok (.iconst 0, 1) := by decide +kernel
theorem dX7_readTap_124 : decode cX7_readTap 124 = .ok (.ireturn, 1) := by decide +kernel
theorem dX7_readTap_125 : decode cX7_readTap 125 = .ok (.aload_n 0, 1) := by decide +kernel
theorem dX7_readTap_126 : decode cX7_readTap 126 = .ok (.getfield 37, 3) := by decide +kernel
theorem dX7_readTap_129 : decode cX7_readTap 129 = .ok (.iconst 3, 1) := by decide +kernel
theorem dX7_readTap_130 : decode cX7_readTap 130 = .ok (.aload_n 0, 1) := by decide +kernel
theorem dX7_readTap_131 : decode cX7_readTap 131 = .ok (.getfield 114, 3) := by decide +kernel
theorem dX7_readTap_134 : decode cX7_readTap 134 = .ok (.imul, 1) := by decide +kernel
theorem dX7_readTap_135 : decode cX7_readTap 135 = .ok (.iload_n 3, 1) := by decide +kernel
theorem dX7_readTap_136 : decode cX7_readTap 136 = .ok (.iadd, 1) := by decide +kernel
theorem dX7_readTap_137 : decode cX7_readTap 137 = .ok (.iload 4, 2) := by decide +kernel
theorem dX7_readTap_139 : decode cX7_readTap 139 = .ok (.iastore, 1) := by decide +kernel
theorem dX7_readTap_140 : decode cX7_readTap 140 = .ok (.aload_n 0, 1) := by decide +kernel
theorem dX7_readTap_141 : decode cX7_readTap 141 = .ok (.dup, 1) := by decide +kernel
theorem dX7_readTap_142 : decode cX7_readTap 142 = .ok (.getfield 96, 3) := by decide +kernel
theorem dX7_readTap_145 : decode cX7_readTap 145 = .ok (.iconst 1, 1) := by decide +kernel
theorem dX7_readTap_146 : decode cX7_readTap 146 = .ok (.iadd, 1) := by decide +kernel
theorem dX7_readTap_147 : decode cX7_readTap 147 = .ok (.putfield 96, 3) := by decide +kernel
theorem dX7_readTap_150 : decode cX7_readTap 150 = .ok (.iinc 3 1, 3) := by decide +kernel
theorem dX7_readTap_153 : decode cX7_readTap 153 = .ok (.goto (-62), 3) := by decide +kernel
theorem dX7_readTap_156 : decode cX7_readTap 156 = .ok (.aload_n 0, 1) := by decide +kernel
theorem dX7_readTap_157 : decode cX7_readTap 157 = .ok (.dup, 1) := by decide +kernel
theorem dX7_readTap_158 : decode cX7_readTap 158 = .ok (.getfield 114, 3) := by decide +kernel
theorem dX7_readTap_161 : decode cX7_readTap 161 = .ok (.iconst 1, 1) := by decide +kernel
theorem dX7_readTap_162 : decode cX7_readTap 162 = .ok (.iadd, 1) := by decide +kernel
theorem dX7_readTap_163 : decode cX7_readTap 163 = .ok (.putfield 114, 3) := by decide +kernel
theorem dX7_readTap_166 : decode cX7_readTap 166 = .ok (.iconst 1, 1) := by decide +kernel
theorem dX7_readTap_167 : decode cX7_readTap 167 = .ok (.ireturn, 1) := by decide +kernel
theorem dX7_wants_0 : decode cX7_wants 0 = .ok (.aload_n 0, 1) := by decide +kernel
theorem dX7_wants_1 : decode cX7_wants 1 = .ok (.getfield 19, 3) := by decide +kernel
theorem dX7_wants_4 : decode cX7_wants 4 = .ok (.iload_n 1, 1) := by decide +kernel
theorem dX7_wants_5 : decode cX7_wants 5 = .ok (.iaload, 1) := by decide +kernel
theorem dX7_wants_6 : decode cX7_wants 6 = .ok (.ifCond .ne 12, 3) := by decide +kernel
theorem dX7_wants_9 : decode cX7_wants 9 = .ok (.aload_n 0, 1) := by decide +kernel
theorem dX7_wants_10 : decode cX7_wants 10 = .ok (.getfield 25, 3) := by decide +kernel
theorem dX7_wants_13 : decode cX7_wants 13 = .ok (.iload_n 1, 1) := by decide +kernel
theorem dX7_wants_14 : decode cX7_wants 14 = .ok (.iaload, 1) := by decide +kernel
theorem dX7_wants_15 : decode cX7_wants 15 = .ok (.goto 27, 3) := by decide +kernel
theorem dX7_wants_18 : decode cX7_wants 18 = .ok (.aload_n 0, 1) := by decide +kernel
theorem dX7_wants_19 : decode cX7_wants 19 = .ok (.getfield 25, 3) := by decide +kernel
theorem dX7_wants_22 : decode cX7_wants 22 = .ok (.iload_n 1, 1) := by decide +kernel
theorem dX7_wants_23 : decode cX7_wants 23 = .ok (.iaload, 1) := by decide +kernel
theorem dX7_wants_24 : decode cX7_wants 24 = .ok (.aload_n 0, 1) := by decide +kernel
theorem dX7_wants_25 : decode cX7_wants 25 = .ok (.getfield 25, 3) := by decide +kernel
theorem dX7_wants_28 : decode cX7_wants 28 = .ok (.iload_n 1, 1) := by decide +kernel
theorem dX7_wants_29 : decode cX7_wants 29 = .ok (.iaload, 1) := by decide +kernel
theorem dX7_wants_30 : decode cX7_wants 30 = .ok (.iconst 2, 1) := by decide +kernel
theorem dX7_wants_31 : decode cX7_wants 31 = .ok (.idiv, 1) := by decide +kernel
theorem dX7_wants_32 : decode cX7_wants 32 = .ok (.iadd, 1) := by decide +kernel
theorem dX7_wants_33 : decode cX7_wants 33 = .ok (.aload_n 0, 1) := by decide +kernel
theorem dX7_wants_34 : decode cX7_wants 34 = .ok (.getfield 19, 3) := by decide +kernel
theorem dX7_wants_37 : decode cX7_wants 37 = .ok (.iload_n 1, 1) := by decide +kernel
theorem dX7_wants_38 : decode cX7_wants 38 = .ok (.iaload, 1) := by decide +kernel
theorem dX7_wants_39 : decode cX7_wants 39 = .ok (.iadd, 1) := by decide +kernel
theorem dX7_wants_40 : decode cX7_wants 40 = .ok (.iconst 1, 1) := by decide +kernel
theorem dX7_wants_41 : decode cX7_wants 41 = .ok (.isub, 1) := by decide +kernel
theorem dX7_wants_42 : decode cX7_wants 42 = .ok (.ireturn, 1) := by decide +kernel
theorem dX7_ofTap_0 : decode cX7_ofTap 0 = .ok (.aload_n 0, 1) := by decide +kernel
theorem dX7_ofTap_1 : decode cX7_ofTap 1 = .ok (.iload_n 1, 1) := by decide +kernel
theorem dX7_ofTap_2 : decode cX7_ofTap 2 = .ok (.invokevirtual 139, 3) := by decide +kernel
theorem dX7_ofTap_5 : decode cX7_ofTap 5 = .ok (.ifCond .ne 5, 3) := by decide +kernel
theorem dX7_ofTap_8 : decode cX7_ofTap 8 = .ok (.iconst (-1), 1) := by decide +kernel
theorem dX7_ofTap_9 : decode cX7_ofTap 9 = .ok (.ireturn, 1) := by decide +kernel
theorem dX7_ofTap_10 : decode cX7_ofTap 10 = .ok (.iload_n 2, 1) := by decide +kernel
theorem dX7_ofTap_11 : decode cX7_ofTap 11 = .ok (.tableswitch 67 0 4 #[33, 40, 47, 54, 61], 33) := by decide +kernel
theorem dX7_ofTap_44 : decode cX7_ofTap 44 = .ok (.aload_n 0, 1) := by decide +kernel
theorem dX7_ofTap_45 : decode cX7_ofTap 45 = .ok (.getfield 19, 3) := by decide +kernel
theorem dX7_ofTap_48 : decode cX7_ofTap 48 = .ok (.iload_n 1, 1) := by decide +kernel
theorem dX7_ofTap_49 : decode cX7_ofTap 49 = .ok (.iaload, 1) := by decide +kernel
theorem dX7_ofTap_50 : decode cX7_ofTap 50 = .ok (.ireturn, 1) := by decide +kernel
theorem dX7_ofTap_51 : decode cX7_ofTap 51 = .ok (.aload_n 0, 1) := by decide +kernel
theorem dX7_ofTap_52 : decode cX7_ofTap 52 = .ok (.getfield 22, 3) := by decide +kernel
theorem dX7_ofTap_55 : decode cX7_ofTap 55 = .ok (.iload_n 1, 1) := by decide +kernel
theorem dX7_ofTap_56 : decode cX7_ofTap 56 = .ok (.iaload, 1) := by decide +kernel
theorem dX7_ofTap_57 : decode cX7_ofTap 57 = .ok (.ireturn, 1) := by decide +kernel
theorem dX7_ofTap_58 : decode cX7_ofTap 58 = .ok (.aload_n 0, 1) := by decide +kernel
theorem dX7_ofTap_59 : decode cX7_ofTap 59 = .ok (.getfield 25, 3) := by decide +kernel
theorem dX7_ofTap_62 : decode cX7_ofTap 62 = .ok (.iload_n 1, 1) := by decide +kernel
theorem dX7_ofTap_63 : decode cX7_ofTap 63 = .ok (.iaload, 1) := by decide +kernel
theorem dX7_ofTap_64 : decode cX7_ofTap 64 = .ok (.ireturn, 1) := by decide +kernel
theorem dX7_ofTap_65 : decode cX7_ofTap 65 = .ok (.aload_n 0, 1) := by decide +kernel
theorem dX7_ofTap_66 : decode cX7_ofTap 66 = .ok (.getfield 28, 3) := by decide +kernel
theorem dX7_ofTap_69 : decode cX7_ofTap 69 = .ok (.iload_n 1, 1) := by decide +kernel
theorem dX7_ofTap_70 : decode cX7_ofTap 70 = .ok (.iaload, 1) := by decide +kernel
theorem dX7_ofTap_71 : decode cX7_ofTap 71 = .ok (.ireturn, 1) := by decide +kernel
theorem dX7_ofTap_72 : decode cX7_ofTap 72 = .ok (.aload_n 0, 1) := by decide +kernel
theorem dX7_ofTap_73 : decode cX7_ofTap 73 = .ok (.iload_n 1, 1) := by decide +kernel
theorem dX7_ofTap_74 : decode cX7_ofTap 74 = .ok (.invokevirtual 142, 3) := by decide +kernel
theorem dX7_ofTap_77 : decode cX7_ofTap 77 = .ok (.ireturn, 1) := by decide +kernel
theorem dX7_ofTap_78 : decode cX7_ofTap 78 = .ok (.bipush (-2), 2) := by decide +kernel
theorem dX7_ofTap_80 : decode cX7_ofTap 80 = .ok (.ireturn, 1) := by decide +kernel
theorem dX7_bore_0 : decode cX7_bore 0 = .ok (.aload_n 0, 1) := by decide +kernel
theorem dX7_bore_1 : decode cX7_bore 1 = .ok (.iload_n 1, 1) := by decide +kernel
theorem dX7_bore_2 : decode cX7_bore 2 = .ok (.invokevirtual 139, 3) := by decide +kernel
theorem dX7_bore_5 : decode cX7_bore 5 = .ok (.ifCond .ne 5, 3) := by decide +kernel
theorem dX7_bore_8 : decode cX7_bore 8 = .ok (.iconst (-1), 1) := by decide +kernel
theorem dX7_bore_9 : decode cX7_bore 9 = .ok (.ireturn, 1) := by decide +kernel
theorem dX7_bore_10 : decode cX7_bore 10 = .ok (.iload_n 2, 1) := by decide +kernel
theorem dX7_bore_11 : decode cX7_bore 11 = .ok (.iconst 0, 1) := by decide +kernel
theorem dX7_bore_12 : decode cX7_bore 12 = .ok (.bipush 9, 2) := by decide +kernel
theorem dX7_bore_14 : decode cX7_bore 14 = .ok (.invokestatic 74, 3) := by decide +kernel
theorem dX7_bore_17 : decode cX7_bore 17 = .ok (.ifCond .ne 6, 3) := by decide +kernel
theorem dX7_bore_20 : decode cX7_bore 20 = .ok (.bipush (-2), 2) := by decide +kernel
theorem dX7_bore_22 : decode cX7_bore 22 = .ok (.ireturn, 1) := by decide +kernel
theorem dX7_bore_23 : decode cX7_bore 23 = .ok (.aload_n 0, 1) := by decide +kernel
theorem dX7_bore_24 : decode cX7_bore 24 = .ok (.getfield 22, 3) := by decide +kernel
theorem dX7_bore_27 : decode cX7_bore 27 = .ok (.iload_n 1, 1) := by decide +kernel
theorem dX7_bore_28 : decode cX7_bore 28 = .ok (.iaload, 1) := by decide +kernel
theorem dX7_bore_29 : decode cX7_bore 29 = .ok (.istore_n 3, 1) := by decide +kernel
theorem dX7_bore_30 : decode cX7_bore 30 = .ok (.aload_n 0, 1) := by decide +kernel
theorem dX7_bore_31 : decode cX7_bore 31 = .ok (.getfield 22, 3) := by decide +kernel
theorem dX7_bore_34 : decode cX7_bore 34 = .ok (.iload_n 1, 1) := by decide +kernel
theorem dX7_bore_35 : decode cX7_bore 35 = .ok (.iload_n 2, 1) := by decide +kernel
theorem dX7_bore_36 : decode cX7_bore 36 = .ok (.iastore, 1) := by decide +kernel
theorem dX7_bore_37 : decode cX7_bore 37 = .ok (.iload_n 3, 1) := by decide +kernel
theorem dX7_bore_38 : decode cX7_bore 38 = .ok (.ireturn, 1) := by decide +kernel
theorem dX7_begin_0 : decode cX7_begin 0 = .ok (.aload_n 0, 1) := by decide +kernel
theorem dX7_begin_1 : decode cX7_begin 1 = .ok (.getfield 78, 3) := by decide +kernel
theorem dX7_begin_4 : decode cX7_begin 4 = .ok (.ifCond .ne 6, 3) := by decide +kernel
theorem dX7_begin_7 : decode cX7_begin 7 = .ok (.bipush (-3), 2) := by decide +kernel
theorem dX7_begin_9 : decode cX7_begin 9 = .ok (.ireturn, 1) := by decide +kernel
theorem dX7_begin_10 : decode cX7_begin 10 = .ok (.iload_n 1, 1) := by decide +kernel
theorem dX7_begin_11 : decode cX7_begin 11 = .ok (.iconst 0, 1) := by decide +kernel
theorem dX7_begin_12 : decode cX7_begin 12 = .ok (.aload_n 0, 1) := by decide +kernel
theorem dX7_begin_13 : decode cX7_begin 13 = .ok (.getfield 105, 3) := by decide +kernel
theorem dX7_begin_16 : decode cX7_begin 16 = .ok (.invokestatic 74, 3) := by decide +kernel
theorem dX7_begin_19 : decode cX7_begin 19 = .ok (.ifCond .ne 6, 3) := by decide +kernel
theorem dX7_begin_22 : decode cX7_begin 22 = .ok (.bipush (-2), 2) := by decide +kernel
theorem dX7_begin_24 : decode cX7_begin 24 = .ok (.ireturn, 1) := by decide +kernel
theorem dX7_begin_25 : decode cX7_begin 25 = .ok (.aload_n 0, 1) := by decide +kernel
theorem dX7_begin_26 : decode cX7_begin 26 = .ok (.getfield 117, 3) := by decide +kernel
theorem dX7_begin_29 : decode cX7_begin 29 = .ok (.istore_n 2, 1) := by decide +kernel
theorem dX7_begin_30 : decode cX7_begin 30 = .ok (.aload_n 0, 1) := by decide +kernel
theorem dX7_begin_31 : decode cX7_begin 31 = .ok (.iload_n 1, 1) := by decide +kernel
theorem dX7_begin_32 : decode cX7_begin 32 = .ok (.putfield 117, 3) := by decide +kernel
theorem dX7_begin_35 : decode cX7_begin 35 = .ok (.iload_n 2, 1) := by decide +kernel
theorem dX7_begin_36 : decode cX7_begin 36 = .ok (.ireturn, 1) := by decide +kernel
theorem dX7_rain_0 : decode cX7_rain 0 = .ok (.iload_n 1, 1) := by decide +kernel
theorem dX7_rain_1 : decode cX7_rain 1 = .ok (.invokestatic 145, 3) := by decide +kernel
theorem dX7_rain_4 : decode cX7_rain 4 = .ok (.ifCond .ne 5, 3) := by decide +kernel
theorem dX7_rain_7 : decode cX7_rain 7 = .ok (.iconst (-1), 1) := by decide +kernel
theorem dX7_rain_8 : decode cX7_rain 8 = .ok (.ireturn, 1) := by decide +kernel
theorem dX7_rain_9 : decode cX7_rain 9 = .ok (.iload_n 2, 1) := by decide +kernel
theorem dX7_rain_10 : decode cX7_rain 10 = .ok (.iconst 0, 1) := by decide +kernel
theorem dX7_rain_11 : decode cX7_rain 11 = .ok (.bipush 99, 2) := by decide +kernel
theorem dX7_rain_13 : decode cX7_rain 13 = .ok (.invokestatic 74, 3) := by decide +kernel
theorem dX7_rain_16 : decode cX7_rain 16 = .ok (.ifCond .ne 6, 3) := by decide +kernel
theorem dX7_rain_19 : decode cX7_rain 19 = .ok (.bipush (-2), 2) := by decide +kernel
theorem dX7_rain_21 : decode cX7_rain 21 = .ok (.ireturn, 1) := by decide +kernel
theorem dX7_rain_22 : decode cX7_rain 22 = .ok (.aload_n 0, 1) := by decide +kernel
theorem dX7_rain_23 : decode cX7_rain 23 = .ok (.getfield 78, 3) := by decide +kernel
theorem dX7_rain_26 : decode cX7_rain 26 = .ok (.ifCond .ne 6, 3) := by decide +kernel
theorem dX7_rain_29 : decode cX7_rain 29 = .ok (.bipush (-3), 2) := by decide +kernel
theorem dX7_rain_31 : decode cX7_rain 31 = .ok (.ireturn, 1) := by decide +kernel
theorem dX7_rain_32 : decode cX7_rain 32 = .ok (.aload_n 0, 1) := by decide +kernel
theorem dX7_rain_33 : decode cX7_rain 33 = .ok (.getfield 31, 3) := by decide +kernel
theorem dX7_rain_36 : decode cX7_rain 36 = .ok (.iload_n 1, 1) := by decide +kernel
theorem dX7_rain_37 : decode cX7_rain 37 = .ok (.iaload, 1) := by decide +kernel
theorem dX7_rain_38 : decode cX7_rain 38 = .ok (.istore_n 3, 1) := by decide +kernel
theorem dX7_rain_39 : decode cX7_rain 39 = .ok (.aload_n 0, 1) := by decide +kernel
theorem dX7_rain_40 : decode cX7_rain 40 = .ok (.getfield 31, 3) := by decide +kernel
theorem dX7_rain_43 : decode cX7_rain 43 = .ok (.iload_n 1, 1) := by decide +kernel
theorem dX7_rain_44 : decode cX7_rain 44 = .ok (.iload_n 2, 1) := by decide +kernel
theorem dX7_rain_45 : decode cX7_rain 45 = .ok (.iastore, 1) := by decide +kernel
theorem dX7_rain_46 : decode cX7_rain 46 = .ok (.iload_n 3, 1) := by decide +kernel
theorem dX7_rain_47 : decode cX7_rain 47 = .ok (.ireturn, 1) := by decide +kernel
theorem dX7_law_0 : decode cX7_law 0 = .ok (.iload_n 1, 1) := by decide +kernel
theorem dX7_law_1 : decode cX7_law 1 = .ok (.iconst 0, 1) := by decide +kernel
theorem dX7_law_2 : decode cX7_law 2 = .ok (.iconst 2, 1) := by decide +kernel
theorem dX7_law_3 : decode cX7_law 3 = .ok (.invokestatic 74, 3) := by decide +kernel
theorem dX7_law_6 : decode cX7_law 6 = .ok (.ifCond .ne 6, 3) := by decide +kernel
theorem dX7_law_9 : decode cX7_law 9 = .ok (.bipush (-2), 2) := by decide +kernel
theorem dX7_law_11 : decode cX7_law 11 = .ok (.ireturn, 1) := by decide +kernel
theorem dX7_law_12 : decode cX7_law 12 = .ok (.aload_n 0, 1) := by decide +kernel
theorem dX7_law_13 : decode cX7_law 13 = .ok (.getfield 78, 3) := by decide +kernel
theorem dX7_law_16 : decode cX7_law 16 = .ok (.ifCond .ne 6, 3) := by decide +kernel
theorem dX7_law_19 : decode cX7_law 19 = .ok (.bipush (-3), 2) := by decide +kernel
theorem dX7_law_21 : decode cX7_law 21 = .ok (.ireturn, 1) := by decide +kernel
theorem dX7_law_22 : decode cX7_law 22 = .ok (.aload_n 0, 1) := by decide +kernel
theorem dX7_law_23 : decode cX7_law 23 = .ok (.getfield 120, 3) := by decide +kernel
theorem dX7_law_26 : decode cX7_law 26 = .ok (.istore_n 2, 1) := by decide +kernel
theorem dX7_law_27 : decode cX7_law 27 = .ok (.aload_n 0, 1) := by decide +kernel
theorem dX7_law_28 : decode cX7_law 28 = .ok (.iload_n 1, 1) := by decide +kernel
theorem dX7_law_29 : decode cX7_law 29 = .ok (.putfield 120, 3) := by decide +kernel
theorem dX7_law_32 : decode cX7_law 32 = .ok (.iload_n 2, 1) := by decide +kernel
theorem dX7_law_33 : decode cX7_law 33 = .ok (.ireturn, 1) := by decide +kernel
theorem dX7_leak_0 : decode cX7_leak 0 = .ok (.iload_n 1, 1) := by decide +kernel
theorem dX7_leak_1 : decode cX7_leak 1 = .ok (.iconst 0, 1) := by decide +kernel
theorem dX7_leak_2 : decode cX7_leak 2 = .ok (.bipush 9, 2) := by decide +kernel
theorem dX7_leak_4 : decode cX7_leak 4 = .ok (.invokestatic 74, 3) := by decide +kernel
theorem dX7_leak_7 : decode cX7_leak 7 = .ok (.ifCond .eq 13, 3) := by decide +kernel
theorem dX7_leak_10 : decode cX7_leak 10 = .ok (.iload_n 2, 1) := by decide +kernel
theorem dX7_leak_11 : decode cX7_leak 11 = .ok (.iconst 0, 1) := by decide +kernel
theorem dX7_leak_12 : decode cX7_leak 12 = .ok (.bipush 9, 2) := by decide +kernel
theorem dX7_leak_14 : decode cX7_leak 14 = .ok (.invokestatic 74, 3) := by decide +kernel
theorem dX7_leak_17 : decode cX7_leak 17 = .ok (.ifCond .ne 6, 3) := by decide +kernel
theorem dX7_leak_20 : decode cX7_leak 20 = .ok (.bipush (-2), 2) := by decide +kernel
theorem dX7_leak_22 : decode cX7_leak 22 = .ok (.ireturn, 1) := by decide +kernel
theorem dX7_leak_23 : decode cX7_leak 23 = .ok (.aload_n 0, 1) := by decide +kernel
theorem dX7_leak_24 : decode cX7_leak 24 = .ok (.getfield 78, 3) := by decide +kernel
theorem dX7_leak_27 : decode cX7_leak 27 = .ok (.ifCond .ne 6, 3) := by decide +kernel
theorem dX7_leak_30 : decode cX7_leak 30 = .ok (.bipush (-3), 2) := by decide +kernel
theorem dX7_leak_32 : decode cX7_leak 32 = .ok (.ireturn, 1) := by decide +kernel
theorem dX7_leak_33 : decode cX7_leak 33 = .ok (.bipush 10, 2) := by decide +kernel
theorem dX7_leak_35 : decode cX7_leak 35 = .ok (.aload_n 0, 1) := by decide +kernel
theorem dX7_leak_36 : decode cX7_leak 36 = .ok (.getfield 123, 3) := by decide +kernel
theorem dX7_leak_39 : decode cX7_leak 39 = .ok (.imul, 1) := by decide +kernel
theorem dX7_leak_40 : decode cX7_leak 40 = .ok (.aload_n 0, 1) := by decide +kernel
theorem dX7_leak_41 : decode cX7_leak 41 = .ok (.getfield 126, 3) := by decide +kernel
theorem dX7_leak_44 : decode cX7_leak 44 = .ok (.iadd, 1) := by decide +kernel
theorem dX7_leak_45 : decode cX7_leak 45 = .ok (.istore_n 3, 1) := by decide +kernel
theorem dX7_leak_46 : decode cX7_leak 46 = .ok (.aload_n 0, 1) := by decide +kernel
theorem dX7_leak_47 : decode cX7_leak 47 = .ok (.iload_n 1, 1) := by decide +kernel
theorem dX7_leak_48 : decode cX7_leak 48 = .ok (.putfield 123, 3) := by decide +kernel
theorem dX7_leak_51 : decode cX7_leak 51 = .ok (.aload_n 0, 1) := by decide +kernel
theorem dX7_leak_52 : decode cX7_leak 52 = .ok (.iload_n 2, 1) := by decide +kernel
theorem dX7_leak_53 : decode cX7_leak 53 = .ok (.putfield 126, 3) := by decide +kernel
theorem dX7_leak_56 : decode cX7_leak 56 = .ok (.iload_n 3, 1) := by decide +kernel
theorem dX7_leak_57 : decode cX7_leak 57 = .ok (.ireturn, 1) := by decide +kernel
theorem dX7_gives_0 : decode cX7_gives 0 = .ok (.aload_n 0, 1) := by decide +kernel
theorem dX7_gives_1 : decode cX7_gives 1 = .ok (.getfield 148, 3) := by decide +kernel
theorem dX7_gives_4 : decode cX7_gives 4 = .ok (.aload_n 0, 1) := by decide +kernel
theorem dX7_gives_5 : decode cX7_gives 5 = .ok (.getfield 22, 3) := by decide +kernel
theorem dX7_gives_8 : decode cX7_gives 8 = .ok (.iload_n 1, 1) := by decide +kernel
theorem dX7_gives_9 : decode cX7_gives 9 = .ok (.iaload, 1) := by decide +kernel
theorem dX7_gives_10 : decode cX7_gives 10 = .ok (.aload_n 0, 1) := by decide +kernel
theorem dX7_gives_11 : decode cX7_gives 11 = .ok (.getfield 111, 3) := by decide +kernel
theorem dX7_gives_14 : decode cX7_gives 14 = .ok (.imul, 1) := by decide +kernel
theorem dX7_gives_15 : decode cX7_gives 15 = .ok (.isub, 1) := by decide +kernel
theorem dX7_gives_16 : decode cX7_gives 16 = .ok (.istore_n 2, 1) := by decide +kernel
theorem dX7_gives_17 : decode cX7_gives 17 = .ok (.iload_n 2, 1) := by decide +kernel
theorem dX7_gives_18 : decode cX7_gives 18 = .ok (.ifCond .le 7, 3) := by decide +kernel
theorem dX7_gives_21 : decode cX7_gives 21 = .ok (.iload_n 2, 1) := by decide +kernel
theorem dX7_gives_22 : decode cX7_gives 22 = .ok (.goto 4, 3) := by decide +kernel
theorem dX7_gives_25 : decode cX7_gives 25 = .ok (.iconst 0, 1) := by decide +kernel
theorem dX7_gives_26 : decode cX7_gives 26 = .ok (.ireturn, 1) := by decide +kernel
theorem dX7_draw_0 : decode cX7_draw 0 = .ok (.iload_n 2, 1) := by decide +kernel
theorem dX7_draw_1 : decode cX7_draw 1 = .ok (.aload_n 0, 1) := by decide +kernel
theorem dX7_draw_2 : decode cX7_draw 2 = .ok (.iload_n 1, 1) := by decide +kernel
theorem dX7_draw_3 : decode cX7_draw 3 = .ok (.invokevirtual 151, 3) := by decide +kernel
theorem dX7_draw_6 : decode cX7_draw 6 = .ok (.if_icmp .ge 7, 3) := by decide +kernel
theorem dX7_draw_9 : decode cX7_draw 9 = .ok (.iload_n 2, 1) := by decide +kernel
theorem dX7_draw_10 : decode cX7_draw 10 = .ok (.goto 8, 3) := by decide +kernel
theorem dX7_draw_13 : decode cX7_draw 13 = .ok (.aload_n 0, 1) := by decide +kernel
theorem dX7_draw_14 : decode cX7_draw 14 = .ok (.iload_n 1, 1) := by decide +kernel
theorem dX7_draw_15 : decode cX7_draw 15 = .ok (.invokevirtual 151, 3) := by decide +kernel
theorem dX7_draw_18 : decode cX7_draw 18 = .ok (.istore_n 3, 1) := by decide +kernel
theorem dX7_draw_19 : decode cX7_draw 19 = .ok (.aload_n 0, 1) := by decide +kernel
theorem dX7_draw_20 : decode cX7_draw 20 = .ok (.getfield 49, 3) := by decide +kernel
theorem dX7_draw_23 : decode cX7_draw 23 = .ok (.iload_n 1, 1) := by decide +kernel
theorem dX7_draw_24 : decode cX7_draw 24 = .ok (.dup2, 1) := by decide +kernel
theorem dX7_draw_25 : decode cX7_draw 25 = .ok (.iaload, 1) := by decide +kernel
theorem dX7_draw_26 : decode cX7_draw 26 = .ok (.iload_n 3, 1) := by decide +kernel
theorem dX7_draw_27 : decode cX7_draw 27 = .ok (.iadd, 1) := by decide +kernel
theorem dX7_draw_28 : decode cX7_draw 28 = .ok (.iastore, 1) := by decide +kernel
theorem dX7_draw_29 : decode cX7_draw 29 = .ok (.aload_n 0, 1) := by decide +kernel
theorem dX7_draw_30 : decode cX7_draw 30 = .ok (.dup, 1) := by decide +kernel
theorem dX7_draw_31 : decode cX7_draw 31 = .ok (.getfield 148, 3) := by decide +kernel
theorem dX7_draw_34 : decode cX7_draw 34 = .ok (.iload_n 3, 1) := by decide +kernel
theorem dX7_draw_35 : decode cX7_draw 35 = .ok (.isub, 1) := by decide +kernel
theorem dX7_draw_36 : decode cX7_draw 36 = .ok (.putfield 148, 3) := by decide +kernel
theorem dX7_draw_39 : decode cX7_draw 39 = .ok (.return_, 1) := by decide +kernel
theorem dX7_wantsNow_0 : decode cX7_wantsNow 0 = .ok (.aload_n 0, 1) := by decide +kernel
theorem dX7_wantsNow_1 : decode cX7_wantsNow 1 = .ok (.getfield 154, 3) := by decide +kernel
theorem dX7_wantsNow_4 : decode cX7_wantsNow 4 = .ok (.ifCond .eq 12, 3) := by decide +kernel
theorem dX7_wantsNow_7 : decode cX7_wantsNow 7 = .ok (.aload_n 0, 1) := by decide +kernel
theorem dX7_wantsNow_8 : decode cX7_wantsNow 8 = .ok (.getfield 25, 3) := by decide +kernel
theorem dX7_wantsNow_11 : decode cX7_wantsNow 11 = .ok (.iload_n 1, 1) := by decide +kernel
theorem dX7_wantsNow_12 : decode cX7_wantsNow 12 = .ok (.iaload, 1) := by decide +kernel
theorem dX7_wantsNow_13 : decode cX7_wantsNow 13 = .ok (.goto 8, 3) := by decide +kernel
theorem dX7_wantsNow_16 : decode cX7_wantsNow 16 = .ok (.aload_n 0, 1) := by decide +kernel
theorem dX7_wantsNow_17 : decode cX7_wantsNow 17 = .ok (.iload_n 1, 1) := by decide +kernel
theorem dX7_wantsNow_18 : decode cX7_wantsNow 18 = .ok (.invokevirtual 142, 3) := by decide +kernel
theorem dX7_wantsNow_21 : decode cX7_wantsNow 21 = .ok (.ireturn, 1) := by decide +kernel
theorem dX7_nextTap_0 : decode cX7_nextTap 0 = .ok (.bipush (-9), 2) := by decide +kernel
theorem dX7_nextTap_2 : decode cX7_nextTap 2 = .ok (.istore_n 2, 1) := by decide +kernel
theorem dX7_nextTap_3 : decode cX7_nextTap 3 = .ok (.iconst 0, 1) := by decide +kernel
theorem dX7_nextTap_4 : decode cX7_nextTap 4 = .ok (.istore_n 3, 1) := by decide +kernel
theorem dX7_nextTap_5 : decode cX7_nextTap 5 = .ok (.iload_n 3, 1) := by decide +kernel
theorem dX7_nextTap_6 : decode cX7_nextTap 6 = .ok (.aload_n 0, 1) := by decide +kernel
theorem dX7_nextTap_7 : decode cX7_nextTap 7 = .ok (.getfield 78, 3) := by decide +kernel
theorem dX7_nextTap_10 : decode cX7_nextTap 10 = .ok (.if_icmp .ge 79, 3) := by decide +kernel
theorem dX7_nextTap_13 : decode cX7_nextTap 13 = .ok (.iload_n 2, 1) := by decide +kernel
theorem dX7_nextTap_14 : decode cX7_nextTap 14 = .ok (.bipush (-9), 2) := by decide +kernel
theorem dX7_nextTap_16 : decode cX7_nextTap 16 = .ok (.if_icmp .eq 40, 3) := by decide +kernel
theorem dX7_nextTap_19 : decode cX7_nextTap 19 = .ok (.iload_n 1, 1) := by decide +kernel
theorem dX7_nextTap_20 : decode cX7_nextTap 20 = .ok (.ifCond .eq 21, 3) := by decide +kernel
theorem dX7_nextTap_23 : decode cX7_nextTap 23 = .ok (.aload_n 0, 1) := by decide +kernel
theorem dX7_nextTap_24 : decode cX7_nextTap 24 = .ok (.getfield 22, 3) := by decide +kernel
theorem dX7_nextTap_27 : decode cX7_nextTap 27 = .ok (.iload_n 3, 1) := by decide +kernel
theorem dX7_nextTap_28 : decode cX7_nextTap 28 = .ok (.iaload, 1) := by decide +kernel
theorem dX7_nextTap_29 : decode cX7_nextTap 29 = .ok (.aload_n 0, 1) := by decide +kernel
theorem dX7_nextTap_30 : decode cX7_nextTap 30 = .ok (.getfield 22, 3) := by decide +kernel
theorem dX7_nextTap_33 : decode cX7_nextTap 33 = .ok (.iload_n 2, 1) := by decide +kernel
theorem dX7_nextTap_34 : decode cX7_nextTap 34 = .ok (.iaload, 1) := by decide +kernel
theorem dX7_nextTap_35 : decode cX7_nextTap 35 = .ok (.if_icmp .le 25, 3) := by decide +kernel
theorem dX7_nextTap_38 : decode cX7_nextTap 38 = .ok (.goto 18, 3) := by decide +kernel
theorem dX7_nextTap_41 : decode cX7_nextTap 41 = .ok (.aload_n 0, 1) := by decide +kernel
theorem dX7_nextTap_42 : decode cX7_nextTap 42 = .ok (.getfield 22, 3) := by decide +kernel
theorem dX7_nextTap_45 : decode cX7_nextTap 45 = .ok (.iload_n 3, 1) := by decide +kernel
theorem dX7_nextTap_46 : decode cX7_nextTap 46 = .ok (.iaload, 1) := by decide +kernel
theorem dX7_nextTap_47 : decode cX7_nextTap 47 = .ok (.aload_n 0, 1) := by decide +kernel
theorem dX7_nextTap_48 : decode cX7_nextTap 48 = .ok (.getfield 22, 3) := by decide +kernel
theorem dX7_nextTap_51 : decode cX7_nextTap 51 = .ok (.iload_n 2, 1) := by decide +kernel
theorem dX7_nextTap_52 : decode cX7_nextTap 52 = .ok (.iaload, 1) := by decide +kernel
theorem dX7_nextTap_53 : decode cX7_nextTap 53 = .ok (.if_icmp .ge 7, 3) := by decide +kernel
theorem dX7_nextTap_56 : decode cX7_nextTap 56 = .ok (.iconst 1, 1) := by decide +kernel
theorem dX7_nextTap_57 : decode cX7_nextTap 57 = .ok (.goto 4, 3) := by decide +kernel
theorem dX7_nextTap_60 : decode cX7_nextTap 60 = .ok (.iconst 0, 1) := by decide +kernel
theorem dX7_nextTap_61 : decode cX7_nextTap 61 = .ok (.istore 4, 2) := by decide +kernel
theorem dX7_nextTap_63 : decode cX7_nextTap 63 = .ok (.aload_n 0, 1) := by decide +kernel
theorem dX7_nextTap_64 : decode cX7_nextTap 64 = .ok (.getfield 52, 3) := by decide +kernel
theorem dX7_nextTap_67 : decode cX7_nextTap 67 = .ok (.iload_n 3, 1) := by decide +kernel
theorem dX7_nextTap_68 : decode cX7_nextTap 68 = .ok (.baload, 1) := by decide +kernel
theorem dX7_nextTap_69 : decode cX7_nextTap 69 = .ok (.ifCond .ne 12, 3) := by decide +kernel
theorem dX7_nextTap_72 : decode cX7_nextTap 72 = .ok (.iload 4, 2) := by decide +kernel
theorem dX7_nextTap_74 : decode cX7_nextTap 74 = .ok (.ifCond .eq 7, 3) := by decide +kernel
theorem dX7_nextTap_77 : decode cX7_nextTap 77 = .ok (.iload_n 3, 1) := by decide +kernel
theorem dX7_nextTap_78 : decode cX7_nextTap 78 = .ok (.goto 4, 3) := by decide +kernel
theorem dX7_nextTap_81 : decode cX7_nextTap 81 = .ok (.iload_n 2, 1) := by decide +kernel
theorem dX7_nextTap_82 : decode cX7_nextTap 82 = .ok (.istore_n 2, 1) := by decide +kernel
theorem dX7_nextTap_83 : decode cX7_nextTap 83 = .ok (.iinc 3 1, 3) := by decide +kernel
theorem dX7_nextTap_86 : decode cX7_nextTap 86 = .ok (.goto (-81), 3) := by decide +kernel
theorem dX7_nextTap_89 : decode cX7_nextTap 89 = .ok (.iload_n 2, 1) := by decide +kernel
theorem dX7_nextTap_90 : decode cX7_nextTap 90 = .ok (.ireturn, 1) := by decide +kernel
theorem dX7_drawInOrder_0 : decode cX7_drawInOrder 0 = .ok (.iconst 0, 1) := by decide +kernel
theorem dX7_drawInOrder_1 : decode cX7_drawInOrder 1 = .ok (.istore_n 2, 1) := by decide +kernel
theorem dX7_drawInOrder_2 : decode cX7_drawInOrder 2 = .ok (.iload_n 2, 1) := by decide +kernel
theorem dX7_drawInOrder_3 : decode cX7_drawInOrder 3 = .ok (.aload_n 0, 1) := by decide +kernel
theorem dX7_drawInOrder_4 : decode cX7_drawInOrder 4 = .ok (.getfield 78, 3) := by decide +kernel
theorem dX7_drawInOrder_7 : decode cX7_drawInOrder 7 = .ok (.if_icmp .ge 16, 3) := by decide +kernel
theorem dX7_drawInOrder_10 : decode cX7_drawInOrder 10 = .ok (.aload_n 0, 1) := by decide +kernel
theorem dX7_drawInOrder_11 : decode cX7_drawInOrder 11 = .ok (.getfield 52, 3) := by decide +kernel
theorem dX7_drawInOrder_14 : decode cX7_drawInOrder 14 = .ok (.iload_n 2, 1) := by decide +kernel
theorem dX7_drawInOrder_15 : decode cX7_drawInOrder 15 = .ok (.iconst 0, 1) := by decide +kernel
theorem dX7_drawInOrder_16 : decode cX7_drawInOrder 16 = .ok (.bastore, 1) := by decide +kernel
theorem dX7_drawInOrder_17 : decode cX7_drawInOrder 17 = .ok (.iinc 2 1, 3) := by decide +kernel
theorem dX7_drawInOrder_20 : decode cX7_drawInOrder 20 = .ok (.goto (-18), 3) := by decide +kernel
theorem dX7_drawInOrder_23 : decode cX7_drawInOrder 23 = .ok (.aload_n 0, 1) := by decide +kernel
theorem dX7_drawInOrder_24 : decode cX7_drawInOrder 24 = .ok (.iload_n 1, 1) := by decide +kernel
theorem dX7_drawInOrder_25 : decode cX7_drawInOrder 25 = .ok (.invokevirtual 158, 3) := by decide +kernel
theorem dX7_drawInOrder_28 : decode cX7_drawInOrder 28 = .ok (.istore_n 2, 1) := by decide +kernel
theorem dX7_drawInOrder_29 : decode cX7_drawInOrder 29 = .ok (.iload_n 2, 1) := by decide +kernel
theorem dX7_drawInOrder_30 : decode cX7_drawInOrder 30 = .ok (.bipush (-9), 2) := by decide +kernel
theorem dX7_drawInOrder_32 : decode cX7_drawInOrder 32 = .ok (.if_icmp .eq 29, 3) := by decide +kernel
theorem dX7_drawInOrder_35 : decode cX7_drawInOrder 35 = .ok (.aload_n 0, 1) := by decide +kernel
theorem dX7_drawInOrder_36 : decode cX7_drawInOrder 36 = .ok (.iload_n 2, 1) := by decide +kernel
theorem dX7_drawInOrder_37 : decode cX7_drawInOrder 37 = .ok (.aload_n 0, 1) := by decide +kernel
theorem dX7_drawInOrder_38 : decode cX7_drawInOrder 38 = .ok (.iload_n 2, 1) := by decide +kernel
theorem dX7_drawInOrder_39 : decode cX7_drawInOrder 39 = .ok (.invokevirtual 162, 3) := by decide +kernel
theorem dX7_drawInOrder_42 : decode cX7_drawInOrder 42 = .ok (.invokevirtual 165, 3) := by decide +kernel
theorem dX7_drawInOrder_45 : decode cX7_drawInOrder 45 = .ok (.aload_n 0, 1) := by decide +kernel
theorem dX7_drawInOrder_46 : decode cX7_drawInOrder 46 = .ok (.getfield 52, 3) := by decide +kernel
theorem dX7_drawInOrder_49 : decode cX7_drawInOrder 49 = .ok (.iload_n 2, 1) := by decide +kernel
theorem dX7_drawInOrder_50 : decode cX7_drawInOrder 50 = .ok (.iconst 1, 1) := by decide +kernel
theorem dX7_drawInOrder_51 : decode cX7_drawInOrder 51 = .ok (.bastore, 1) := by decide +kernel
theorem dX7_drawInOrder_52 : decode cX7_drawInOrder 52 = .ok (.aload_n 0, 1) := by decide +kernel
theorem dX7_drawInOrder_53 : decode cX7_drawInOrder 53 = .ok (.iload_n 1, 1) := by decide +kernel
theorem dX7_drawInOrder_54 : decode cX7_drawInOrder 54 = .ok (.invokevirtual 158, 3) := by decide +kernel
theorem dX7_drawInOrder_57 : decode cX7_drawInOrder 57 = .ok (.istore_n 2, 1) := by decide +kernel
theorem dX7_drawInOrder_58 : decode cX7_drawInOrder 58 = .ok (.goto (-29), 3) := by decide +kernel
theorem dX7_drawInOrder_61 : decode cX7_drawInOrder 61 = .ok (.return_, 1) := by decide +kernel
theorem dX7_drawByTurns_0 : decode cX7_drawByTurns 0 = .ok (.aload_n 0, 1) := by decide +kernel
theorem dX7_drawByTurns_1 : decode cX7_drawByTurns 1 = .ok (.getfield 148, 3) := by decide +kernel
theorem dX7_drawByTurns_4 : decode cX7_drawByTurns 4 = .ok (.iconst 1, 1) := by decide +kernel
theorem dX7_drawByTurns_5 : decode cX7_drawByTurns 5 = .ok (.iadd, 1) := by decide +kernel
theorem dX7_drawByTurns_6 : decode cX7_drawByTurns 6 = .ok (.istore_n 1, 1) := by decide +kernel
theorem dX7_drawByTurns_7 : decode cX7_drawByTurns 7 = .ok (.aload_n 0, 1) := by decide +kernel
theorem dX7_drawByTurns_8 : decode cX7_drawByTurns 8 = .ok (.getfield 148, 3) := by decide +kernel
theorem dX7_drawByTurns_11 : decode cX7_drawByTurns 11 = .ok (.iload_n 1, 1) := by decide +kernel
theorem dX7_drawByTurns_12 : decode cX7_drawByTurns 12 = .ok (.if_icmp .ge 65, 3) := by decide +kernel
theorem dX7_drawByTurns_15 : decode cX7_drawByTurns 15 = .ok (.aload_n 0, 1) := by decide +kernel
theorem dX7_drawByTurns_16 : decode cX7_drawByTurns 16 = .ok (.getfield 148, 3) := by decide +kernel
theorem dX7_drawByTurns_19 : decode cX7_drawByTurns 19 = .ok (.istore_n 1, 1) := by decide +kernel
theorem dX7_drawByTurns_20 : decode cX7_drawByTurns 20 = .ok (.iconst 0, 1) := by decide +kernel
theorem dX7_drawByTurns_21 : decode cX7_drawByTurns 21 = .ok (.istore_n 2, 1) := by decide +kernel
theorem dX7_drawByTurns_22 : decode cX7_drawByTurns 22 = .ok (.iload_n 2, 1) := by decide +kernel
theorem dX7_drawByTurns_23 : decode cX7_drawByTurns 23 = .ok (.aload_n 0, 1) := by decide +kernel
theorem dX7_drawByTurns_24 : decode cX7_drawByTurns 24 = .ok (.getfield 78, 3) := by decide +kernel
theorem dX7_drawByTurns_27 : decode cX7_drawByTurns 27 = .ok (.if_icmp .ge 47, 3) := by decide +kernel
theorem dX7_drawByTurns_30 : decode cX7_drawByTurns 30 = .ok (.aload_n 0, 1) := by decide +kernel
theorem dX7_drawByTurns_31 : decode cX7_drawByTurns 31 = .ok (.iload_n 2, 1) := by decide +kernel
theorem dX7_drawByTurns_32 : decode cX7_drawByTurns 32 = .ok (.invokevirtual 162, 3) := by decide +kernel
theorem dX7_drawByTurns_35 : decode cX7_drawByTurns 35 = .ok (.aload_n 0, 1) := by decide +kernel
theorem dX7_drawByTurns_36 : decode cX7_drawByTurns 36 = .ok (.getfield 49, 3) := by decide +kernel
theorem dX7_drawByTurns_39 : decode cX7_drawByTurns 39 = .ok (.iload_n 2, 1) := by decide +kernel
theorem dX7_drawByTurns_40 : decode cX7_drawByTurns 40 = .ok (.iaload, 1) := by decide +kernel
theorem dX7_drawByTurns_41 : decode cX7_drawByTurns 41 = .ok (.isub, 1) := by decide +kernel
theorem dX7_drawByTurns_42 : decode cX7_drawByTurns 42 = .ok (.istore_n 3, 1) := by decide +kernel
theorem dX7_drawByTurns_43 : decode cX7_drawByTurns 43 = .ok (.aload_n 0, 1) := by decide +kernel
theorem dX7_drawByTurns_44 : decode cX7_drawByTurns 44 = .ok (.iload_n 2, 1) := by decide +kernel
theorem dX7_drawByTurns_45 : decode cX7_drawByTurns 45 = .ok (.iload_n 3, 1) := by decide +kernel
theorem dX7_drawByTurns_46 : decode cX7_drawByTurns 46 = .ok (.aload_n 0, 1) := by decide +kernel
theorem dX7_drawByTurns_47 : decode cX7_drawByTurns 47 = .ok (.getfield 28, 3) := by decide +kernel
theorem dX7_drawByTurns_50 : decode cX7_drawByTurns 50 = .ok (.iload_n 2, 1) := by decide +kernel
theorem dX7_drawByTurns_51 : decode cX7_drawByTurns 51 = .ok (.iaload, 1) := by decide +kernel
theorem dX7_drawByTurns_52 : decode cX7_drawByTurns 52 = .ok (.if_icmp .ge 7, 3) := by decide +kernel
theorem dX7_drawByTurns_55 : decode cX7_drawByTurns 55 = .ok (.iload_n 3, 1) := by decide +kernel
theorem dX7_drawByTurns_56 : decode cX7_drawByTurns 56 = .ok (.goto 9, 3) := by decide +kernel
theorem dX7_drawByTurns_59 : decode cX7_drawByTurns 59 = .ok (.aload_n 0, 1) := by decide +kernel
theorem dX7_drawByTurns_60 : decode cX7_drawByTurns 60 = .ok (.getfield 28, 3) := by decide +kernel
theorem dX7_drawByTurns_63 : decode cX7_drawByTurns 63 = .ok (.iload_n 2, 1) := by decide +kernel
theorem dX7_drawByTurns_64 : decode cX7_drawByTurns 64 = .ok (.iaload, 1) := by decide +kernel
theorem dX7_drawByTurns_65 : decode cX7_drawByTurns 65 = .ok (.invokevirtual 165, 3) := by decide +kernel
theorem dX7_drawByTurns_68 : decode cX7_drawByTurns 68 = .ok (.iinc 2 1, 3) := by decide +kernel
theorem dX7_drawByTurns_71 : decode cX7_drawByTurns 71 = .ok (.goto (-49), 3) := by decide +kernel
theorem dX7_drawByTurns_74 : decode cX7_drawByTurns 74 = .ok (.goto (-67), 3) := by decide +kernel
theorem dX7_drawByTurns_77 : decode cX7_drawByTurns 77 = .ok (.return_, 1) := by decide +kernel
theorem dX7_goDay_0 : decode cX7_goDay 0 = .ok (.aload_n 0, 1) := by decide +kernel
theorem dX7_goDay_1 : decode cX7_goDay 1 = .ok (.dup, 1) := by decide +kernel
theorem dX7_goDay_2 : decode cX7_goDay 2 = .ok (.getfield 148, 3) := by decide +kernel
theorem dX7_goDay_5 : decode cX7_goDay 5 = .ok (.aload_n 0, 1) := by decide +kernel
theorem dX7_goDay_6 : decode cX7_goDay 6 = .ok (.getfield 31, 3) := by decide +kernel
theorem dX7_goDay_9 : decode cX7_goDay 9 = .ok (.iload_n 1, 1) := by decide +kernel
theorem dX7_goDay_10 : decode cX7_goDay 10 = .ok (.iaload, 1) := by decide +kernel
theorem dX7_goDay_11 : decode cX7_goDay 11 = .ok (.iadd, 1) := by decide +kernel
theorem dX7_goDay_12 : decode cX7_goDay 12 = .ok (.putfield 148, 3) := by decide +kernel
theorem dX7_goDay_15 : decode cX7_goDay 15 = .ok (.aload_n 0, 1) := by decide +kernel
theorem dX7_goDay_16 : decode cX7_goDay 16 = .ok (.getfield 46, 3) := by decide +kernel
theorem dX7_goDay_19 : decode cX7_goDay 19 = .ok (.iload_n 1, 1) := by decide +kernel
theorem dX7_goDay_20 : decode cX7_goDay 20 = .ok (.aload_n 0, 1) := by decide +kernel
theorem dX7_goDay_21 : decode cX7_goDay 21 = .ok (.getfield 148, 3) := by decide +kernel
theorem dX7_goDay_24 : decode cX7_goDay 24 = .ok (.aload_n 0, 1) := by decide +kernel
theorem dX7_goDay_25 : decode cX7_goDay 25 = .ok (.getfield 105, 3) := by decide +kernel
theorem dX7_goDay_28 : decode cX7_goDay 28 = .ok (.if_icmp .le 15, 3) := by decide +kernel
theorem dX7_goDay_31 : decode cX7_goDay 31 = .ok (.aload_n 0, 1) := by decide +kernel
theorem dX7_goDay_32 : decode cX7_goDay 32 = .ok (.getfield 148, 3) := by decide +kernel
theorem dX7_goDay_35 : decode cX7_goDay 35 = .ok (.aload_n 0, 1) := by decide +kernel
theorem dX7_goDay_36 : decode cX7_goDay 36 = .ok (.getfield 105, 3) := by decide +kernel
theorem dX7_goDay_39 : decode cX7_goDay 39 = .ok (.isub, 1) := by decide +kernel
theorem dX7_goDay_40 : decode cX7_goDay 40 = .ok (.goto 4, 3) := by decide +kernel
theorem dX7_goDay_43 : decode cX7_goDay 43 = .ok (.iconst 0, 1) := by decide +kernel
theorem dX7_goDay_44 : decode cX7_goDay 44 = .ok (.iastore, 1) := by decide +kernel
theorem dX7_goDay_45 : decode cX7_goDay 45 = .ok (.aload_n 0, 1) := by decide +kernel
theorem dX7_goDay_46 : decode cX7_goDay 46 = .ok (.dup, 1) := by decide +kernel
theorem dX7_goDay_47 : decode cX7_goDay 47 = .ok (.getfield 148, 3) := by decide +kernel
theorem dX7_goDay_50 : decode cX7_goDay 50 = .ok (.aload_n 0, 1) := by decide +kernel
theorem dX7_goDay_51 : decode cX7_goDay 51 = .ok (.getfield 46, 3) := by decide +kernel
theorem dX7_goDay_54 : decode cX7_goDay 54 = .ok (.iload_n 1, 1) := by decide +kernel
theorem dX7_goDay_55 : decode cX7_goDay 55 = .ok (.iaload, 1) := by decide +kernel
theorem dX7_goDay_56 : decode cX7_goDay 56 = .ok (.isub, 1) := by decide +kernel
theorem dX7_goDay_57 : decode cX7_goDay 57 = .ok (.putfield 148, 3) := by decide +kernel
theorem dX7_goDay_60 : decode cX7_goDay 60 = .ok (.iconst 0, 1) := by decide +kernel
theorem dX7_goDay_61 : decode cX7_goDay 61 = .ok (.istore_n 2, 1) := by decide +kernel
theorem dX7_goDay_62 : decode cX7_goDay 62 = .ok (.iload_n 2, 1) := by decide +kernel
theorem dX7_goDay_63 : decode cX7_goDay 63 = .ok (.aload_n 0, 1) := by decide +kernel
theorem dX7_goDay_64 : decode cX7_goDay 64 = .ok (.getfield 78, 3) := by decide +kernel
theorem dX7_goDay_67 : decode cX7_goDay 67 = .ok (.if_icmp .ge 16, 3) := by decide +kernel
theorem dX7_goDay_70 : decode cX7_goDay 70 = .ok (.aload_n 0, 1) := by decide +kernel
theorem dX7_goDay_71 : decode cX7_goDay 71 = .ok (.getfield 49, 3) := by decide +kernel
theorem dX7_goDay_74 : decode cX7_goDay 74 = .ok (.iload_n 2, 1) := by decide +kernel
theorem dX7_goDay_75 : decode cX7_goDay 75 = .ok (.iconst 0, 1) := by decide +kernel
theorem dX7_goDay_76 : decode cX7_goDay 76 = .ok (.iastore, 1) := by decide +kernel
theorem dX7_goDay_77 : decode cX7_goDay 77 = .ok (.iinc 2 1, 3) := by decide +kernel
theorem dX7_goDay_80 : decode cX7_goDay 80 = .ok (.goto (-18), 3) := by decide +kernel
theorem dX7_goDay_83 : decode cX7_goDay 83 = .ok (.aload_n 0, 1) := by decide +kernel
theorem dX7_goDay_84 : decode cX7_goDay 84 = .ok (.getfield 120, 3) := by decide +kernel
theorem dX7_goDay_87 : decode cX7_goDay 87 = .ok (.iconst 2, 1) := by decide +kernel
theorem dX7_goDay_88 : decode cX7_goDay 88 = .ok (.if_icmp .ne 17, 3) := by decide +kernel
theorem dX7_goDay_91 : decode cX7_goDay 91 = .ok (.aload_n 0, 1) := by decide +kernel
theorem dX7_goDay_92 : decode cX7_goDay 92 = .ok (.getfield 154, 3) := by decide +kernel
theorem dX7_goDay_95 : decode cX7_goDay 95 = .ok (.ifCond .ne 10, 3) := by decide +kernel
theorem dX7_goDay_98 : decode cX7_goDay 98 = .ok (.aload_n 0, 1) := by decide +kernel
theorem dX7_goDay_99 : decode cX7_goDay 99 = .ok (.invokevirtual 169, 3) := by decide +kernel
theorem dX7_goDay_102 : decode cX7_goDay 102 = .ok (.goto 26, 3) := by decide +kernel
theorem dX7_goDay_105 : decode cX7_goDay 105 = .ok (.aload_n 0, 1) := by decide +kernel
theorem dX7_goDay_106 : decode cX7_goDay 106 = .ok (.aload_n 0, 1) := by decide +kernel
theorem dX7_goDay_107 : decode cX7_goDay 107 = .ok (.getfield 154, 3) := by decide +kernel
theorem dX7_goDay_110 : decode cX7_goDay 110 = .ok (.ifCond .ne 10, 3) := by decide +kernel
theorem dX7_goDay_113 : decode cX7_goDay 113 = .ok (.aload_n 0, 1) := by decide +kernel
theorem dX7_goDay_114 : decode cX7_goDay 114 = .ok (.getfield 120, 3) := by decide +kernel
theorem dX7_goDay_117 : decode cX7_goDay 117 = .ok (.ifCond .ne 7, 3) := by decide +kernel
theorem dX7_goDay_120 : decode cX7_goDay 120 = .ok (.iconst 1, 1) := by decide +kernel
theorem dX7_goDay_121 : decode cX7_goDay 121 = .ok (.goto 4, 3) := by decide +kernel
theorem dX7_goDay_124 : decode cX7_goDay 124 = .ok (.iconst 0, 1) := by decide +kernel
theorem dX7_goDay_125 : decode cX7_goDay 125 = .ok (.invokevirtual 172, 3) := by decide +kernel
theorem dX7_goDay_128 : decode cX7_goDay 128 = .ok (.iconst 0, 1) := by decide +kernel
theorem dX7_goDay_129 : decode cX7_goDay 129 = .ok (.istore_n 2, 1) := by decide +kernel
theorem dX7_goDay_130 : decode cX7_goDay 130 = .ok (.iload_n 2, 1) := by decide +kernel
theorem dX7_goDay_131 : decode cX7_goDay 131 = .ok (.aload_n 0, 1) := by decide +kernel
theorem dX7_goDay_132 : decode cX7_goDay 132 = .ok (.getfield 78, 3) := by decide +kernel
theorem dX7_goDay_135 : decode cX7_goDay 135 = .ok (.if_icmp .ge 26, 3) := by decide +kernel
theorem dX7_goDay_138 : decode cX7_goDay 138 = .ok (.aload_n 0, 1) := by decide +kernel
theorem dX7_goDay_139 : decode cX7_goDay 139 = .ok (.getfield 43, 3) := by decide +kernel
theorem dX7_goDay_142 : decode cX7_goDay 142 = .ok (.bipush 6, 2) := by decide +kernel
theorem dX7_goDay_144 : decode cX7_goDay 144 = .ok (.iload_n 1, 1) := by decide +kernel
theorem dX7_goDay_145 : decode cX7_goDay 145 = .ok (.imul, 1) := by decide +kernel
theorem dX7_goDay_146 : decode cX7_goDay 146 = .ok (.iload_n 2, 1) := by decide +kernel
theorem dX7_goDay_147 : decode cX7_goDay 147 = .ok (.iadd, 1) := by decide +kernel
theorem dX7_goDay_148 : decode cX7_goDay 148 = .ok (.aload_n 0, 1) := by decide +kernel
theorem dX7_goDay_149 : decode cX7_goDay 149 = .ok (.getfield 49, 3) := by decide +kernel
theorem dX7_goDay_152 : decode cX7_goDay 152 = .ok (.iload_n 2, 1) := by decide +kernel
theorem dX7_goDay_153 : decode cX7_goDay 153 = .ok (.iaload, 1) := by decide +kernel
theorem dX7_goDay_154 : decode cX7_goDay 154 = .ok (.iastore, 1) := by decide +kernel
theorem dX7_goDay_155 : decode cX7_goDay 155 = .ok (.iinc 2 1, 3) := by decide +kernel
theorem dX7_goDay_158 : decode cX7_goDay 158 = .ok (.goto (-28), 3) := by decide +kernel
theorem dX7_goDay_161 : decode cX7_goDay 161 = .ok (.aload_n 0, 1) := by decide +kernel
theorem dX7_goDay_162 : decode cX7_goDay 162 = .ok (.getfield 148, 3) := by decide +kernel
theorem dX7_goDay_165 : decode cX7_goDay 165 = .ok (.aload_n 0, 1) := by decide +kernel
theorem dX7_goDay_166 : decode cX7_goDay 166 = .ok (.getfield 123, 3) := by decide +kernel
theorem dX7_goDay_169 : decode cX7_goDay 169 = .ok (.aload_n 0, 1) := by decide +kernel
theorem dX7_goDay_170 : decode cX7_goDay 170 = .ok (.getfield 111, 3) := by decide +kernel
theorem dX7_goDay_173 : decode cX7_goDay 173 = .ok (.imul, 1) := by decide +kernel
theorem dX7_goDay_174 : decode cX7_goDay 174 = .ok (.isub, 1) := by decide +kernel
theorem dX7_goDay_175 : decode cX7_goDay 175 = .ok (.istore_n 2, 1) := by decide +kernel
theorem dX7_goDay_176 : decode cX7_goDay 176 = .ok (.aload_n 0, 1) := by decide +kernel
theorem dX7_goDay_177 : decode cX7_goDay 177 = .ok (.dup, 1) := by decide +kernel
theorem dX7_goDay_178 : decode cX7_goDay 178 = .ok (.getfield 148, 3) := by decide +kernel
theorem dX7_goDay_181 : decode cX7_goDay 181 = .ok (.iload_n 2, 1) := by decide +kernel
theorem dX7_goDay_182 : decode cX7_goDay 182 = .ok (.ifCond .gt 7, 3) := by decide +kernel
theorem dX7_goDay_185 : decode cX7_goDay 185 = .ok (.iconst 0, 1) := by decide +kernel
theorem dX7_goDay_186 : decode cX7_goDay 186 = .ok (.goto 19, 3) := by decide +kernel
theorem dX7_goDay_189 : decode cX7_goDay 189 = .ok (.iload_n 2, 1) := by decide +kernel
theorem dX7_goDay_190 : decode cX7_goDay 190 = .ok (.aload_n 0, 1) := by decide +kernel
theorem dX7_goDay_191 : decode cX7_goDay 191 = .ok (.getfield 126, 3) := by decide +kernel
theorem dX7_goDay_194 : decode cX7_goDay 194 = .ok (.if_icmp .ge 7, 3) := by decide +kernel
theorem dX7_goDay_197 : decode cX7_goDay 197 = .ok (.iload_n 2, 1) := by decide +kernel
theorem dX7_goDay_198 : decode cX7_goDay 198 = .ok (.goto 7, 3) := by decide +kernel
theorem dX7_goDay_201 : decode cX7_goDay 201 = .ok (.aload_n 0, 1) := by decide +kernel
theorem dX7_goDay_202 : decode cX7_goDay 202 = .ok (.getfield 126, 3) := by decide +kernel
theorem dX7_goDay_205 : decode cX7_goDay 205 = .ok (.isub, 1) := by decide +kernel
theorem dX7_goDay_206 : decode cX7_goDay 206 = .ok (.putfield 148, 3) := by decide +kernel
theorem dX7_goDay_209 : decode cX7_goDay 209 = .ok (.iload_n 1, 1) := by decide +kernel
theorem dX7_goDay_210 : decode cX7_goDay 210 = .ok (.aload_n 0, 1) := by decide +kernel
theorem dX7_goDay_211 : decode cX7_goDay 211 = .ok (.getfield 56, 3) := by decide +kernel
theorem dX7_goDay_214 : decode cX7_goDay 214 = .ok (.if_icmp .ne 51, 3) := by decide +kernel
theorem dX7_goDay_217 : decode cX7_goDay 217 = .ok (.aload_n 0, 1) := by decide +kernel
theorem dX7_goDay_218 : decode cX7_goDay 218 = .ok (.aload_n 0, 1) := by decide +kernel
theorem dX7_goDay_219 : decode cX7_goDay 219 = .ok (.aload_n 0, 1) := by decide +kernel
theorem dX7_goDay_220 : decode cX7_goDay 220 = .ok (.getfield 176, 3) := by decide +kernel
theorem dX7_goDay_223 : decode cX7_goDay 223 = .ok (.invokevirtual 151, 3) := by decide +kernel
theorem dX7_goDay_226 : decode cX7_goDay 226 = .ok (.aload_n 0, 1) := by decide +kernel
theorem dX7_goDay_227 : decode cX7_goDay 227 = .ok (.getfield 179, 3) := by decide +kernel
theorem dX7_goDay_230 : decode cX7_goDay 230 = .ok (.if_icmp .lt 7, 3) := by decide +kernel
theorem dX7_goDay_233 : decode cX7_goDay 233 = .ok (.iconst 1, 1) := by decide +kernel
theorem dX7_goDay_234 : decode cX7_goDay 234 = .ok (.goto 4, 3) := by decide +kernel
theorem dX7_goDay_237 : decode cX7_goDay 237 = .ok (.iconst 0, 1) := by decide +kernel
theorem dX7_goDay_238 : decode cX7_goDay 238 = .ok (.putfield 182, 3) := by decide +kernel
theorem dX7_goDay_241 : decode cX7_goDay 241 = .ok (.aload_n 0, 1) := by decide +kernel
theorem dX7_goDay_242 : decode cX7_goDay 242 = .ok (.dup, 1) := by decide +kernel
theorem dX7_goDay_243 : decode cX7_goDay 243 = .ok (.getfield 148, 3) := by decide +kernel
theorem dX7_goDay_246 : decode cX7_goDay 246 = .ok (.aload_n 0, 1) := by decide +kernel
theorem dX7_goDay_247 : decode cX7_goDay 247 = .ok (.getfield 182, 3) := by decide +kernel
theorem dX7_goDay_250 : decode cX7_goDay 250 = .ok (.ifCond .eq 10, 3) := by decide +kernel
theorem dX7_goDay_253 : decode cX7_goDay 253 = .ok (.aload_n 0, 1) := by decide +kernel
theorem dX7_goDay_254 : decode cX7_goDay 254 = .ok (.getfield 179, 3) := by decide +kernel
theorem dX7_goDay_257 : decode cX7_goDay 257 = .ok (.goto 4, 3) := by decide +kernel
theorem dX7_goDay_260 : decode cX7_goDay 260 = .ok (.iconst 0, 1) := by decide +kernel
theorem dX7_goDay_261 : decode cX7_goDay 261 = .ok (.isub, 1) := by decide +kernel
theorem dX7_goDay_262 : decode cX7_goDay 262 = .ok (.putfield 148, 3) := by decide +kernel
theorem dX7_goDay_265 : decode cX7_goDay 265 = .ok (.return_, 1) := by decide +kernel
theorem dX7_goDays_0 : decode cX7_goDays 0 = .ok (.aload_n 0, 1) := by decide +kernel
theorem dX7_goDays_1 : decode cX7_goDays 1 = .ok (.aload_n 0, 1) := by decide +kernel
theorem dX7_goDays_2 : decode cX7_goDays 2 = .ok (.getfield 117, 3) := by decide +kernel
theorem dX7_goDays_5 : decode cX7_goDays 5 = .ok (.putfield 148, 3) := by decide +kernel
theorem dX7_goDays_8 : decode cX7_goDays 8 = .ok (.aload_n 0, 1) := by decide +kernel
theorem dX7_goDays_9 : decode cX7_goDays 9 = .ok (.getfield 40, 3) := by decide +kernel
theorem dX7_goDays_12 : decode cX7_goDays 12 = .ok (.iconst 0, 1) := by decide +kernel
theorem dX7_goDays_13 : decode cX7_goDays 13 = .ok (.aload_n 0, 1) := by decide +kernel
theorem dX7_goDays_14 : decode cX7_goDays 14 = .ok (.getfield 117, 3) := by decide +kernel
theorem dX7_goDays_17 : decode cX7_goDays 17 = .ok (.iastore, 1) := by decide +kernel
theorem dX7_goDays_18 : decode cX7_goDays 18 = .ok (.aload_n 0, 1) := by decide +kernel
theorem dX7_goDays_19 : decode cX7_goDays 19 = .ok (.iconst 0, 1) := by decide +kernel
theorem dX7_goDays_20 : decode cX7_goDays 20 = .ok (.putfield 182, 3) := by decide +kernel
theorem dX7_goDays_23 : decode cX7_goDays 23 = .ok (.iconst 0, 1) := by decide +kernel
theorem dX7_goDays_24 : decode cX7_goDays 24 = .ok (.istore_n 2, 1) := by decide +kernel
theorem dX7_goDays_25 : decode cX7_goDays 25 = .ok (.iload_n 2, 1) := by decide +kernel
theorem dX7_goDays_26 : decode cX7_goDays 26 = .ok (.iload_n 1, 1) := by decide +kernel
theorem dX7_goDays_27 : decode cX7_goDays 27 = .ok (.if_icmp .ge 26, 3) := by decide +kernel
theorem dX7_goDays_30 : decode cX7_goDays 30 = .ok (.aload_n 0, 1) := by decide +kernel
theorem dX7_goDays_31 : decode cX7_goDays 31 = .ok (.iload_n 2, 1) := by decide +kernel
theorem dX7_goDays_32 : decode cX7_goDays 32 = .ok (.invokevirtual 185, 3) := by decide +kernel
theorem dX7_goDays_35 : decode cX7_goDays 35 = .ok (.aload_n 0, 1) := by decide +kernel
theorem dX7_goDays_36 : decode cX7_goDays 36 = .ok (.getfield 40, 3) := by decide +kernel
theorem dX7_goDays_39 : decode cX7_goDays 39 = .ok (.iload_n 2, 1) := by decide +kernel
theorem dX7_goDays_40 : decode cX7_goDays 40 = .ok (.iconst 1, 1) := by decide +kernel
theorem dX7_goDays_41 : decode cX7_goDays 41 = .ok (.iadd, 1) := by decide +kernel
theorem dX7_goDays_42 : decode cX7_goDays 42 = .ok (.aload_n 0, 1) := by decide +kernel
theorem dX7_goDays_43 : decode cX7_goDays 43 = .ok (.getfield 148, 3) := by decide +kernel
theorem dX7_goDays_46 : decode cX7_goDays 46 = .ok (.iastore, 1) := by decide +kernel
theorem dX7_goDays_47 : decode cX7_goDays 47 = .ok (.iinc 2 1, 3) := by decide +kernel
theorem dX7_goDays_50 : decode cX7_goDays 50 = .ok (.goto (-25), 3) := by decide +kernel
theorem dX7_goDays_53 : decode cX7_goDays 53 = .ok (.return_, 1) := by decide +kernel
theorem dX7_got_0 : decode cX7_got 0 = .ok (.aload_n 0, 1) := by decide +kernel
theorem dX7_got_1 : decode cX7_got 1 = .ok (.iload_n 1, 1) := by decide +kernel
theorem dX7_got_2 : decode cX7_got 2 = .ok (.invokevirtual 139, 3) := by decide +kernel
theorem dX7_got_5 : decode cX7_got 5 = .ok (.ifCond .eq 10, 3) := by decide +kernel
theorem dX7_got_8 : decode cX7_got 8 = .ok (.iload_n 2, 1) := by decide +kernel
theorem dX7_got_9 : decode cX7_got 9 = .ok (.invokestatic 145, 3) := by decide +kernel
theorem dX7_got_12 : decode cX7_got 12 = .ok (.ifCond .ne 5, 3) := by decide +kernel
theorem dX7_got_15 : decode cX7_got 15 = .ok (.iconst (-1), 1) := by decide +kernel
theorem dX7_got_16 : decode cX7_got 16 = .ok (.ireturn, 1) := by decide +kernel
theorem dX7_got_17 : decode cX7_got 17 = .ok (.aload_n 0, 1) := by decide +kernel
theorem dX7_got_18 : decode cX7_got 18 = .ok (.bipush 10, 2) := by decide +kernel
theorem dX7_got_20 : decode cX7_got 20 = .ok (.invokevirtual 189, 3) := by decide +kernel
theorem dX7_got_23 : decode cX7_got 23 = .ok (.aload_n 0, 1) := by decide +kernel
theorem dX7_got_24 : decode cX7_got 24 = .ok (.getfield 43, 3) := by decide +kernel
theorem dX7_got_27 : decode cX7_got 27 = .ok (.bipush 6, 2) := by decide +kernel
theorem dX7_got_29 : decode cX7_got 29 = .ok (.iload_n 2, 1) := by decide +kernel
theorem dX7_got_30 : decode cX7_got 30 = .ok (.imul, 1) := by decide +kernel
theorem dX7_got_31 : decode cX7_got 31 = .ok (.iload_n 1, 1) := by decide +kernel
theorem dX7_got_32 : decode cX7_got 32 = .ok (.iadd, 1) := by decide +kernel
theorem dX7_got_33 : decode cX7_got 33 = .ok (.iaload, 1) := by decide +kernel
theorem dX7_got_34 : decode cX7_got 34 = .ok (.ireturn, 1) := by decide +kernel
theorem dX7_level_0 : decode cX7_level 0 = .ok (.iload_n 1, 1) := by decide +kernel
theorem dX7_level_1 : decode cX7_level 1 = .ok (.iconst 0, 1) := by decide +kernel
theorem dX7_level_2 : decode cX7_level 2 = .ok (.bipush 10, 2) := by decide +kernel
theorem dX7_level_4 : decode cX7_level 4 = .ok (.invokestatic 74, 3) := by decide +kernel
theorem dX7_level_7 : decode cX7_level 7 = .ok (.ifCond .ne 5, 3) := by decide +kernel
theorem dX7_level_10 : decode cX7_level 10 = .ok (.iconst (-1), 1) := by decide +kernel
theorem dX7_level_11 : decode cX7_level 11 = .ok (.ireturn, 1) := by decide +kernel
theorem dX7_level_12 : decode cX7_level 12 = .ok (.aload_n 0, 1) := by decide +kernel
theorem dX7_level_13 : decode cX7_level 13 = .ok (.getfield 78, 3) := by decide +kernel
theorem dX7_level_16 : decode cX7_level 16 = .ok (.ifCond .ne 6, 3) := by decide +kernel
theorem dX7_level_19 : decode cX7_level 19 = .ok (.bipush (-3), 2) := by decide +kernel
theorem dX7_level_21 : decode cX7_level 21 = .ok (.ireturn, 1) := by decide +kernel
theorem dX7_level_22 : decode cX7_level 22 = .ok (.aload_n 0, 1) := by decide +kernel
theorem dX7_level_23 : decode cX7_level 23 = .ok (.bipush 10, 2) := by decide +kernel
theorem dX7_level_25 : decode cX7_level 25 = .ok (.invokevirtual 189, 3) := by decide +kernel
theorem dX7_level_28 : decode cX7_level 28 = .ok (.aload_n 0, 1) := by decide +kernel
theorem dX7_level_29 : decode cX7_level 29 = .ok (.getfield 40, 3) := by decide +kernel
theorem dX7_level_32 : decode cX7_level 32 = .ok (.iload_n 1, 1) := by decide +kernel
theorem dX7_level_33 : decode cX7_level 33 = .ok (.iaload, 1) := by decide +kernel
theorem dX7_level_34 : decode cX7_level 34 = .ok (.ireturn, 1) := by decide +kernel
theorem dX7_over_0 : decode cX7_over 0 = .ok (.iload_n 1, 1) := by decide +kernel
theorem dX7_over_1 : decode cX7_over 1 = .ok (.invokestatic 145, 3) := by decide +kernel
theorem dX7_over_4 : decode cX7_over 4 = .ok (.ifCond .ne 5, 3) := by decide +kernel
theorem dX7_over_7 : decode cX7_over 7 = .ok (.iconst (-1), 1) := by decide +kernel
theorem dX7_over_8 : decode cX7_over 8 = .ok (.ireturn, 1) := by decide +kernel
theorem dX7_over_9 : decode cX7_over 9 = .ok (.aload_n 0, 1) := by decide +kernel
theorem dX7_over_10 : decode cX7_over 10 = .ok (.getfield 78, 3) := by decide +kernel
theorem dX7_over_13 : decode cX7_over 13 = .ok (.ifCond .ne 6, 3) := by decide +kernel
theorem dX7_over_16 : decode cX7_over 16 = .ok (.bipush (-3), 2) := by decide +kernel
theorem dX7_over_18 : decode cX7_over 18 = .ok (.ireturn, 1) := by decide +kernel
theorem dX7_over_19 : decode cX7_over 19 = .ok (.aload_n 0, 1) := by decide +kernel
theorem dX7_over_20 : decode cX7_over 20 = .ok (.bipush 10, 2) := by decide +kernel
theorem dX7_over_22 : decode cX7_over 22 = .ok (.invokevirtual 189, 3) := by decide +kernel
theorem dX7_over_25 : decode cX7_over 25 = .ok (.aload_n 0, 1) := by decide +kernel
theorem dX7_over_26 : decode cX7_over 26 = .ok (.getfield 46, 3) := by decide +kernel
theorem dX7_over_29 : decode cX7_over 29 = .ok (.iload_n 1, 1) := by decide +kernel
theorem dX7_over_30 : decode cX7_over 30 = .ok (.iaload, 1) := by decide +kernel
theorem dX7_over_31 : decode cX7_over 31 = .ok (.ireturn, 1) := by decide +kernel
theorem dX7_nobody_0 : decode cX7_nobody 0 = .ok (.iload_n 1, 1) := by decide +kernel
theorem dX7_nobody_1 : decode cX7_nobody 1 = .ok (.iconst 0, 1) := by decide +kernel
theorem dX7_nobody_2 : decode cX7_nobody 2 = .ok (.bipush 10, 2) := by decide +kernel
theorem dX7_nobody_4 : decode cX7_nobody 4 = .ok (.invokestatic 74, 3) := by decide +kernel
theorem dX7_nobody_7 : decode cX7_nobody 7 = .ok (.ifCond .ne 5, 3) := by decide +kernel
theorem dX7_nobody_10 : decode cX7_nobody 10 = .ok (.iconst (-1), 1) := by decide +kernel
theorem dX7_nobody_11 : decode cX7_nobody 11 = .ok (.ireturn, 1) := by decide +kernel
theorem dX7_nobody_12 : decode cX7_nobody 12 = .ok (.aload_n 0, 1) := by decide +kernel
theorem dX7_nobody_13 : decode cX7_nobody 13 = .ok (.getfield 78, 3) := by decide +kernel
theorem dX7_nobody_16 : decode cX7_nobody 16 = .ok (.ifCond .ne 6, 3) := by decide +kernel
theorem dX7_nobody_19 : decode cX7_nobody 19 = .ok (.bipush (-3), 2) := by decide +kernel
theorem dX7_nobody_21 : decode cX7_nobody 21 = .ok (.ireturn, 1) := by decide +kernel
theorem dX7_nobody_22 : decode cX7_nobody 22 = .ok (.aload_n 0, 1) := by decide +kernel
theorem dX7_nobody_23 : decode cX7_nobody 23 = .ok (.bipush 10, 2) := by decide +kernel
theorem dX7_nobody_25 : decode cX7_nobody 25 = .ok (.invokevirtual 189, 3) := by decide +kernel
theorem dX7_nobody_28 : decode cX7_nobody 28 = .ok (.aload_n 0, 1) := by decide +kernel
theorem dX7_nobody_29 : decode cX7_nobody 29 = .ok (.getfield 22, 3) := by decide +kernel
theorem dX7_nobody_32 : decode cX7_nobody 32 = .ok (.iconst 0, 1) := by decide +kernel
theorem dX7_nobody_33 : decode cX7_nobody 33 = .ok (.iaload, 1) := by decide +kernel
theorem dX7_nobody_34 : decode cX7_nobody 34 = .ok (.istore_n 2, 1) := by decide +kernel
theorem dX7_nobody_35 : decode cX7_nobody 35 = .ok (.iconst 1, 1) := by decide +kernel
theorem dX7_nobody_36 : decode cX7_nobody 36 = .ok (.istore_n 3, 1) := by decide +kernel
theorem dX7_nobody_37 : decode cX7_nobody 37 = .ok (.iload_n 3, 1) := by decide +kernel
theorem dX7_nobody_38 : decode cX7_nobody 38 = .ok (.aload_n 0, 1) := by decide +kernel
theorem dX7_nobody_39 : decode cX7_nobody 39 = .ok (.getfield 78, 3) := by decide +kernel
theorem dX7_nobody_42 : decode cX7_nobody 42 = .ok (.if_icmp .ge 30, 3) := by decide +kernel
theorem dX7_nobody_45 : decode cX7_nobody 45 = .ok (.aload_n 0, 1) := by decide +kernel
theorem dX7_nobody_46 : decode cX7_nobody 46 = .ok (.getfield 22, 3) := by decide +kernel
theorem dX7_nobody_49 : decode cX7_nobody 49 = .ok (.iload_n 3, 1) := by decide +kernel
theorem dX7_nobody_50 : decode cX7_nobody 50 = .ok (.iaload, 1) := by decide +kernel
theorem dX7_nobody_51 : decode cX7_nobody 51 = .ok (.iload_n 2, 1) := by decide +kernel
theorem dX7_nobody_52 : decode cX7_nobody 52 = .ok (.if_icmp .ge 12, 3) := by decide +kernel
theorem dX7_nobody_55 : decode cX7_nobody 55 = .ok (.aload_n 0, 1) := by decide +kernel
theorem dX7_nobody_56 : decode cX7_nobody 56 = .ok (.getfield 22, 3) := by decide +kernel
theorem dX7_nobody_59 : decode cX7_nobody 59 = .ok (.iload_n 3, 1) := by decide +kernel
theorem dX7_nobody_60 : decode cX7_nobody 60 = .ok (.iaload, 1) := by decide +kernel
theorem dX7_nobody_61 : decode cX7_nobody 61 = .ok (.goto 4, 3) := by decide +kernel
theorem dX7_nobody_64 : decode cX7_nobody 64 = .ok (.iload_n 2, 1) := by decide +kernel
theorem dX7_nobody_65 : decode cX7_nobody 65 = .ok (.istore_n 2, 1) := by decide +kernel
theorem dX7_nobody_66 : decode cX7_nobody 66 = .ok (.iinc 3 1, 3) := by decide +kernel
theorem dX7_nobody_69 : decode cX7_nobody 69 = .ok (.goto (-32), 3) := by decide +kernel
theorem dX7_nobody_72 : decode cX7_nobody 72 = .ok (.aload_n 0, 1) := by decide +kernel
theorem dX7_nobody_73 : decode cX7_nobody 73 = .ok (.getfield 40, 3) := by decide +kernel
theorem dX7_nobody_76 : decode cX7_nobody 76 = .ok (.iload_n 1, 1) := by decide +kernel
theorem dX7_nobody_77 : decode cX7_nobody 77 = .ok (.iaload, 1) := by decide +kernel
theorem dX7_nobody_78 : decode cX7_nobody 78 = .ok (.iload_n 2, 1) := by decide +kernel
theorem dX7_nobody_79 : decode cX7_nobody 79 = .ok (.aload_n 0, 1) := by decide +kernel
theorem dX7_nobody_80 : decode cX7_nobody 80 = .ok (.getfield 111, 3) := by decide +kernel
theorem dX7_nobody_83 : decode cX7_nobody 83 = .ok (.imul, 1) := by decide +kernel
theorem dX7_nobody_84 : decode cX7_nobody 84 = .ok (.if_icmp .ge 12, 3) := by decide +kernel
theorem dX7_nobody_87 : decode cX7_nobody 87 = .ok (.aload_n 0, 1) := by decide +kernel
theorem dX7_nobody_88 : decode cX7_nobody 88 = .ok (.getfield 40, 3) := by decide +kernel
theorem dX7_nobody_91 : decode cX7_nobody 91 = .ok (.iload_n 1, 1) := by decide +kernel
theorem dX7_nobody_92 : decode cX7_nobody 92 = .ok (.iaload, 1) := by decide +kernel
theorem dX7_nobody_93 : decode cX7_nobody 93 = .ok (.goto 9, 3) := by decide +kernel
theorem dX7_nobody_96 : decode cX7_nobody 96 = .ok (.iload_n 2, 1) := by decide +kernel
theorem dX7_nobody_97 : decode cX7_nobody 97 = .ok (.aload_n 0, 1) := by decide +kernel
theorem dX7_nobody_98 : decode cX7_nobody 98 = .ok (.getfield 111, 3) := by decide +kernel
theorem dX7_nobody_101 : decode cX7_nobody 101 = .ok (.imul, 1) := by decide +kernel
theorem dX7_nobody_102 : decode cX7_nobody 102 = .ok (.ireturn, 1) := by decide +kernel
theorem dX7_firstDry_0 : decode cX7_firstDry 0 = .ok (.iconst 0, 1) := by decide +kernel
theorem dX7_firstDry_1 : decode cX7_firstDry 1 = .ok (.istore_n 3, 1) := by decide +kernel
theorem dX7_firstDry_2 : decode cX7_firstDry 2 = .ok (.iload_n 3, 1) := by decide +kernel
theorem dX7_firstDry_3 : decode cX7_firstDry 3 = .ok (.iload_n 2, 1) := by decide +kernel
theorem dX7_firstDry_4 : decode cX7_firstDry 4 = .ok (.if_icmp .ge 31, 3) := by decide +kernel
theorem dX7_firstDry_7 : decode cX7_firstDry 7 = .ok (.aload_n 0, 1) := by decide +kernel
theorem dX7_firstDry_8 : decode cX7_firstDry 8 = .ok (.getfield 43, 3) := by decide +kernel
theorem dX7_firstDry_11 : decode cX7_firstDry 11 = .ok (.bipush 6, 2) := by decide +kernel
theorem dX7_firstDry_13 : decode cX7_firstDry 13 = .ok (.iload_n 3, 1) := by decide +kernel
theorem dX7_firstDry_14 : decode cX7_firstDry 14 = .ok (.imul, 1) := by decide +kernel
theorem dX7_firstDry_15 : decode cX7_firstDry 15 = .ok (.iload_n 1, 1) := by decide +kernel
theorem dX7_firstDry_16 : decode cX7_firstDry 16 = .ok (.iadd, 1) := by decide +kernel
theorem dX7_firstDry_17 : decode cX7_firstDry 17 = .ok (.iaload, 1) := by decide +kernel
theorem dX7_firstDry_18 : decode cX7_firstDry 18 = .ok (.aload_n 0, 1) := by decide +kernel
theorem dX7_firstDry_19 : decode cX7_firstDry 19 = .ok (.getfield 25, 3) := by decide +kernel
theorem dX7_firstDry_22 : decode cX7_firstDry 22 = .ok (.iload_n 1, 1) := by decide +kernel
theorem dX7_firstDry_23 : decode cX7_firstDry 23 = .ok (.iaload, 1) := by decide +kernel
theorem dX7_firstDry_24 : decode cX7_firstDry 24 = .ok (.if_icmp .ge 5, 3) := by decide +kernel
theorem dX7_firstDry_27 : decode cX7_firstDry 27 = .ok (.iload_n 3, 1) := by decide +kernel
theorem dX7_firstDry_28 : decode cX7_firstDry 28 = .ok (.ireturn, 1) := by decide +kernel
theorem dX7_firstDry_29 : decode cX7_firstDry 29 = .ok (.iinc 3 1, 3) := by decide +kernel
theorem dX7_firstDry_32 : decode cX7_firstDry 32 = .ok (.goto (-30), 3) := by decide +kernel
theorem dX7_firstDry_35 : decode cX7_firstDry 35 = .ok (.bipush (-9), 2) := by decide +kernel
theorem dX7_firstDry_37 : decode cX7_firstDry 37 = .ok (.ireturn, 1) := by decide +kernel
theorem dX7_dry_0 : decode cX7_dry 0 = .ok (.aload_n 0, 1) := by decide +kernel
theorem dX7_dry_1 : decode cX7_dry 1 = .ok (.iload_n 1, 1) := by decide +kernel
theorem dX7_dry_2 : decode cX7_dry 2 = .ok (.invokevirtual 139, 3) := by decide +kernel
theorem dX7_dry_5 : decode cX7_dry 5 = .ok (.ifCond .ne 5, 3) := by decide +kernel
theorem dX7_dry_8 : decode cX7_dry 8 = .ok (.iconst (-1), 1) := by decide +kernel
theorem dX7_dry_9 : decode cX7_dry 9 = .ok (.ireturn, 1) := by decide +kernel
theorem dX7_dry_10 : decode cX7_dry 10 = .ok (.aload_n 0, 1) := by decide +kernel
theorem dX7_dry_11 : decode cX7_dry 11 = .ok (.bipush 10, 2) := by decide +kernel
theorem dX7_dry_13 : decode cX7_dry 13 = .ok (.invokevirtual 189, 3) := by decide +kernel
theorem dX7_dry_16 : decode cX7_dry 16 = .ok (.aload_n 0, 1) := by decide +kernel
theorem dX7_dry_17 : decode cX7_dry 17 = .ok (.iload_n 1, 1) := by decide +kernel
theorem dX7_dry_18 : decode cX7_dry 18 = .ok (.bipush 10, 2) := by decide +kernel
theorem dX7_dry_20 : decode cX7_dry 20 = .ok (.invokevirtual 192, 3) := by decide +kernel
theorem dX7_dry_23 : decode cX7_dry 23 = .ok (.ireturn, 1) := by decide +kernel
theorem dX7_wetOn_0 : decode cX7_wetOn 0 = .ok (.iconst 0, 1) := by decide +kernel
theorem dX7_wetOn_1 : decode cX7_wetOn 1 = .ok (.istore_n 2, 1) := by decide +kernel
theorem dX7_wetOn_2 : decode cX7_wetOn 2 = .ok (.iconst 0, 1) := by decide +kernel
theorem dX7_wetOn_3 : decode cX7_wetOn 3 = .ok (.istore_n 3, 1) := by decide +kernel
theorem dX7_wetOn_4 : decode cX7_wetOn 4 = .ok (.iload_n 3, 1) := by decide +kernel
theorem dX7_wetOn_5 : decode cX7_wetOn 5 = .ok (.aload_n 0, 1) := by decide +kernel
theorem dX7_wetOn_6 : decode cX7_wetOn 6 = .ok (.getfield 78, 3) := by decide +kernel
theorem dX7_wetOn_9 : decode cX7_wetOn 9 = .ok (.if_icmp .ge 28, 3) := by decide +kernel
theorem dX7_wetOn_12 : decode cX7_wetOn 12 = .ok (.iload_n 2, 1) := by decide +kernel
theorem dX7_wetOn_13 : decode cX7_wetOn 13 = .ok (.aload_n 0, 1) := by decide +kernel
theorem dX7_wetOn_14 : decode cX7_wetOn 14 = .ok (.iload_n 3, 1) := by decide +kernel
theorem dX7_wetOn_15 : decode cX7_wetOn 15 = .ok (.iload_n 1, 1) := by decide +kernel
theorem dX7_wetOn_16 : decode cX7_wetOn 16 = .ok (.invokevirtual 192, 3) := by decide +kernel
theorem dX7_wetOn_19 : decode cX7_wetOn 19 = .ok (.bipush (-9), 2) := by decide +kernel
theorem dX7_wetOn_21 : decode cX7_wetOn 21 = .ok (.if_icmp .ne 7, 3) := by decide +kernel
theorem dX7_wetOn_24 : decode cX7_wetOn 24 = .ok (.iconst 1, 1) := by decide +kernel
theorem dX7_wetOn_25 : decode cX7_wetOn 25 = .ok (.goto 4, 3) := by decide +kernel
theorem dX7_wetOn_28 : decode cX7_wetOn 28 = .ok (.iconst 0, 1) := by decide +kernel
theorem dX7_wetOn_29 : decode cX7_wetOn 29 = .ok (.iadd, 1) := by decide +kernel
theorem dX7_wetOn_30 : decode cX7_wetOn 30 = .ok (.istore_n 2, 1) := by decide +kernel
theorem dX7_wetOn_31 : decode cX7_wetOn 31 = .ok (.iinc 3 1, 3) := by decide +kernel
theorem dX7_wetOn_34 : decode cX7_wetOn 34 = .ok (.goto (-30), 3) := by decide +kernel
theorem dX7_wetOn_37 : decode cX7_wetOn 37 = .ok (.iload_n 2, 1) := by decide +kernel
theorem dX7_wetOn_38 : decode cX7_wetOn 38 = .ok (.ireturn, 1) := by decide +kernel
theorem dX7_canAll_0 : decode cX7_canAll 0 = .ok (.aload_n 0, 1) := by decide +kernel
theorem dX7_canAll_1 : decode cX7_canAll 1 = .ok (.iconst 1, 1) := by decide +kernel
theorem dX7_canAll_2 : decode cX7_canAll 2 = .ok (.putfield 154, 3) := by decide +kernel
theorem dX7_canAll_5 : decode cX7_canAll 5 = .ok (.aload_n 0, 1) := by decide +kernel
theorem dX7_canAll_6 : decode cX7_canAll 6 = .ok (.iload_n 1, 1) := by decide +kernel
theorem dX7_canAll_7 : decode cX7_canAll 7 = .ok (.invokevirtual 189, 3) := by decide +kernel
theorem dX7_canAll_10 : decode cX7_canAll 10 = .ok (.aload_n 0, 1) := by decide +kernel
theorem dX7_canAll_11 : decode cX7_canAll 11 = .ok (.iconst 0, 1) := by decide +kernel
theorem dX7_canAll_12 : decode cX7_canAll 12 = .ok (.putfield 154, 3) := by decide +kernel
theorem dX7_canAll_15 : decode cX7_canAll 15 = .ok (.aload_n 0, 1) := by decide +kernel
theorem dX7_canAll_16 : decode cX7_canAll 16 = .ok (.iload_n 1, 1) := by decide +kernel
theorem dX7_canAll_17 : decode cX7_canAll 17 = .ok (.invokevirtual 196, 3) := by decide +kernel
theorem dX7_canAll_20 : decode cX7_canAll 20 = .ok (.aload_n 0, 1) := by decide +kernel
theorem dX7_canAll_21 : decode cX7_canAll 21 = .ok (.getfield 78, 3) := by decide +kernel
theorem dX7_canAll_24 : decode cX7_canAll 24 = .ok (.if_icmp .ne 7, 3) := by decide +kernel
theorem dX7_canAll_27 : decode cX7_canAll 27 = .ok (.iconst 1, 1) := by decide +kernel
theorem dX7_canAll_28 : decode cX7_canAll 28 = .ok (.goto 4, 3) := by decide +kernel
theorem dX7_canAll_31 : decode cX7_canAll 31 = .ok (.iconst 0, 1) := by decide +kernel
theorem dX7_canAll_32 : decode cX7_canAll 32 = .ok (.ireturn, 1) := by decide +kernel
theorem dX7_againstDays_0 : decode cX7_againstDays 0 = .ok (.iload_n 1, 1) := by decide +kernel
theorem dX7_againstDays_1 : decode cX7_againstDays 1 = .ok (.iconst 0, 1) := by decide +kernel
theorem dX7_againstDays_2 : decode cX7_againstDays 2 = .ok (.bipush 10, 2) := by decide +kernel
theorem dX7_againstDays_4 : decode cX7_againstDays 4 = .ok (.invokestatic 74, 3) := by decide +kernel
theorem dX7_againstDays_7 : decode cX7_againstDays 7 = .ok (.ifCond .ne 8, 3) := by decide +kernel
theorem dX7_againstDays_10 : decode cX7_againstDays 10 = .ok (.bipush (-2), 2) := by decide +kernel
theorem dX7_againstDays_12 : decode cX7_againstDays 12 = .ok (.goto 16, 3) := by decide +kernel
theorem dX7_againstDays_15 : decode cX7_againstDays 15 = .ok (.aload_n 0, 1) := by decide +kernel
theorem dX7_againstDays_16 : decode cX7_againstDays 16 = .ok (.getfield 78, 3) := by decide +kernel
theorem dX7_againstDays_19 : decode cX7_againstDays 19 = .ok (.ifCond .ne 8, 3) := by decide +kernel
theorem dX7_againstDays_22 : decode cX7_againstDays 22 = .ok (.bipush (-3), 2) := by decide +kernel
theorem dX7_againstDays_24 : decode cX7_againstDays 24 = .ok (.goto 4, 3) := by decide +kernel
theorem dX7_againstDays_27 : decode cX7_againstDays 27 = .ok (.iconst 0, 1) := by decide +kernel
theorem dX7_againstDays_28 : decode cX7_againstDays 28 = .ok (.ireturn, 1) := by decide +kernel
theorem dX7_can_0 : decode cX7_can 0 = .ok (.aload_n 0, 1) := by decide +kernel
theorem dX7_can_1 : decode cX7_can 1 = .ok (.iload_n 1, 1) := by decide +kernel
theorem dX7_can_2 : decode cX7_can 2 = .ok (.invokevirtual 199, 3) := by decide +kernel
theorem dX7_can_5 : decode cX7_can 5 = .ok (.istore_n 2, 1) := by decide +kernel
theorem dX7_can_6 : decode cX7_can 6 = .ok (.iload_n 2, 1) := by decide +kernel
theorem dX7_can_7 : decode cX7_can 7 = .ok (.ifCond .eq 7, 3) := by decide +kernel
theorem dX7_can_10 : decode cX7_can 10 = .ok (.iload_n 2, 1) := by decide +kernel
theorem dX7_can_11 : decode cX7_can 11 = .ok (.goto 16, 3) := by decide +kernel
theorem dX7_can_14 : decode cX7_can 14 = .ok (.aload_n 0, 1) := by decide +kernel
theorem dX7_can_15 : decode cX7_can 15 = .ok (.iload_n 1, 1) := by decide +kernel
theorem dX7_can_16 : decode cX7_can 16 = .ok (.invokevirtual 202, 3) := by decide +kernel
theorem dX7_can_19 : decode cX7_can 19 = .ok (.ifCond .eq 7, 3) := by decide +kernel
theorem dX7_can_22 : decode cX7_can 22 = .ok (.iconst 1, 1) := by decide +kernel
theorem dX7_can_23 : decode cX7_can 23 = .ok (.goto 4, 3) := by decide +kernel
theorem dX7_can_26 : decode cX7_can 26 = .ok (.iconst 0, 1) := by decide +kernel
theorem dX7_can_27 : decode cX7_can 27 = .ok (.ireturn, 1) := by decide +kernel
theorem dX7_start_0 : decode cX7_start 0 = .ok (.aload_n 0, 1) := by decide +kernel
theorem dX7_start_1 : decode cX7_start 1 = .ok (.iload_n 1, 1) := by decide +kernel
theorem dX7_start_2 : decode cX7_start 2 = .ok (.invokevirtual 199, 3) := by decide +kernel
theorem dX7_start_5 : decode cX7_start 5 = .ok (.istore_n 2, 1) := by decide +kernel
theorem dX7_start_6 : decode cX7_start 6 = .ok (.iload_n 2, 1) := by decide +kernel
theorem dX7_start_7 : decode cX7_start 7 = .ok (.ifCond .eq 5, 3) := by decide +kernel
theorem dX7_start_10 : decode cX7_start 10 = .ok (.iload_n 2, 1) := by decide +kernel
theorem dX7_start_11 : decode cX7_start 11 = .ok (.ireturn, 1) := by decide +kernel
theorem dX7_start_12 : decode cX7_start 12 = .ok (.aload_n 0, 1) := by decide +kernel
theorem dX7_start_13 : decode cX7_start 13 = .ok (.getfield 117, 3) := by decide +kernel
theorem dX7_start_16 : decode cX7_start 16 = .ok (.istore_n 3, 1) := by decide +kernel
theorem dX7_start_17 : decode cX7_start 17 = .ok (.bipush (-9), 2) := by decide +kernel
theorem dX7_start_19 : decode cX7_start 19 = .ok (.istore 4, 2) := by decide +kernel
theorem dX7_start_21 : decode cX7_start 21 = .ok (.aload_n 0, 1) := by decide +kernel
theorem dX7_start_22 : decode cX7_start 22 = .ok (.getfield 105, 3) := by decide +kernel
theorem dX7_start_25 : decode cX7_start 25 = .ok (.istore 5, 2) := by decide +kernel
theorem dX7_start_27 : decode cX7_start 27 = .ok (.iload 5, 2) := by decide +kernel
theorem dX7_start_29 : decode cX7_start 29 = .ok (.ifCond .lt 32, 3) := by decide +kernel
theorem dX7_start_32 : decode cX7_start 32 = .ok (.aload_n 0, 1) := by decide +kernel
theorem dX7_start_33 : decode cX7_start 33 = .ok (.iload 5, 2) := by decide +kernel
theorem dX7_start_35 : decode cX7_start 35 = .ok (.putfield 117, 3) := by decide +kernel
theorem dX7_start_38 : decode cX7_start 38 = .ok (.aload_n 0, 1) := by decide +kernel
theorem dX7_start_39 : decode cX7_start 39 = .ok (.iload_n 1, 1) := by decide +kernel
theorem dX7_start_40 : decode cX7_start 40 = .ok (.invokevirtual 202, 3) := by decide +kernel
theorem dX7_start_43 : decode cX7_start 43 = .ok (.ifCond .eq 8, 3) := by decide +kernel
theorem dX7_start_46 : decode cX7_start 46 = .ok (.iload 5, 2) := by decide +kernel
theorem dX7_start_48 : decode cX7_start 48 = .ok (.goto 5, 3) := by decide +kernel
theorem dX7_start_51 : decode cX7_start 51 = .ok (.iload 4, 2) := by decide +kernel
theorem dX7_start_53 : decode cX7_start 53 = .ok (.istore 4, 2) := by decide +kernel
theorem dX7_start_55 : decode cX7_start 55 = .ok (.iinc 5 (-1), 3) := by decide +kernel
theorem dX7_start_58 : decode cX7_start 58 = .ok (.goto (-31), 3) := by decide +kernel
theorem dX7_start_61 : decode cX7_start 61 = .ok (.aload_n 0, 1) := by decide +kernel
theorem dX7_start_62 : decode cX7_start 62 = .ok (.iload_n 3, 1) := by decide +kernel
theorem dX7_start_63 : decode cX7_start 63 = .ok (.putfield 117, 3) := by decide +kernel
theorem dX7_start_66 : decode cX7_start 66 = .ok (.iload 4, 2) := by decide +kernel
theorem dX7_start_68 : decode cX7_start 68 = .ok (.ireturn, 1) := by decide +kernel
theorem dX7_best_0 : decode cX7_best 0 = .ok (.iload_n 2, 1) := by decide +kernel
theorem dX7_best_1 : decode cX7_best 1 = .ok (.iconst 0, 1) := by decide +kernel
theorem dX7_best_2 : decode cX7_best 2 = .ok (.iconst 1, 1) := by decide +kernel
theorem dX7_best_3 : decode cX7_best 3 = .ok (.invokestatic 74, 3) := by decide +kernel
theorem dX7_best_6 : decode cX7_best 6 = .ok (.ifCond .ne 6, 3) := by decide +kernel
theorem dX7_best_9 : decode cX7_best 9 = .ok (.bipush (-2), 2) := by decide +kernel
theorem dX7_best_11 : decode cX7_best 11 = .ok (.ireturn, 1) := by decide +kernel
theorem dX7_best_12 : decode cX7_best 12 = .ok (.aload_n 0, 1) := by decide +kernel
theorem dX7_best_13 : decode cX7_best 13 = .ok (.iload_n 1, 1) := by decide +kernel
theorem dX7_best_14 : decode cX7_best 14 = .ok (.invokevirtual 199, 3) := by decide +kernel
theorem dX7_best_17 : decode cX7_best 17 = .ok (.istore_n 3, 1) := by decide +kernel
theorem dX7_best_18 : decode cX7_best 18 = .ok (.iload_n 3, 1) := by decide +kernel
theorem dX7_best_19 : decode cX7_best 19 = .ok (.ifCond .eq 5, 3) := by decide +kernel
theorem dX7_best_22 : decode cX7_best 22 = .ok (.iload_n 3, 1) := by decide +kernel
theorem dX7_best_23 : decode cX7_best 23 = .ok (.ireturn, 1) := by decide +kernel
theorem dX7_best_24 : decode cX7_best 24 = .ok (.aload_n 0, 1) := by decide +kernel
theorem dX7_best_25 : decode cX7_best 25 = .ok (.getfield 120, 3) := by decide +kernel
theorem dX7_best_28 : decode cX7_best 28 = .ok (.istore 4, 2) := by decide +kernel
theorem dX7_best_30 : decode cX7_best 30 = .ok (.iconst 0, 1) := by decide +kernel
theorem dX7_best_31 : decode cX7_best 31 = .ok (.istore 5, 2) := by decide +kernel
theorem dX7_best_33 : decode cX7_best 33 = .ok (.iconst (-1), 1) := by decide +kernel
theorem dX7_best_34 : decode cX7_best 34 = .ok (.istore 6, 2) := by decide +kernel
theorem dX7_best_36 : decode cX7_best 36 = .ok (.aload_n 0, 1) := by decide +kernel
theorem dX7_best_37 : decode cX7_best 37 = .ok (.iconst 0, 1) := by decide +kernel
theorem dX7_best_38 : decode cX7_best 38 = .ok (.putfield 120, 3) := by decide +kernel
theorem dX7_best_41 : decode cX7_best 41 = .ok (.aload_n 0, 1) := by decide +kernel
theorem dX7_best_42 : decode cX7_best 42 = .ok (.getfield 120, 3) := by decide +kernel
theorem dX7_best_45 : decode cX7_best 45 = .ok (.iconst 3, 1) := by decide +kernel
theorem dX7_best_46 : decode cX7_best 46 = .ok (.if_icmp .ge 44, 3) := by decide +kernel
theorem dX7_best_49 : decode cX7_best 49 = .ok (.aload_n 0, 1) := by decide +kernel
theorem dX7_best_50 : decode cX7_best 50 = .ok (.iload_n 1, 1) := by decide +kernel
theorem dX7_best_51 : decode cX7_best 51 = .ok (.invokevirtual 189, 3) := by decide +kernel
theorem dX7_best_54 : decode cX7_best 54 = .ok (.aload_n 0, 1) := by decide +kernel
theorem dX7_best_55 : decode cX7_best 55 = .ok (.iload_n 1, 1) := by decide +kernel
theorem dX7_best_56 : decode cX7_best 56 = .ok (.invokevirtual 196, 3) := by decide +kernel
theorem dX7_best_59 : decode cX7_best 59 = .ok (.iload 6, 2) := by decide +kernel
theorem dX7_best_61 : decode cX7_best 61 = .ok (.if_icmp .le 16, 3) := by decide +kernel
theorem dX7_best_64 : decode cX7_best 64 = .ok (.aload_n 0, 1) := by decide +kernel
theorem dX7_best_65 : decode cX7_best 65 = .ok (.iload_n 1, 1) := by decide +kernel
theorem dX7_best_66 : decode cX7_best 66 = .ok (.invokevirtual 196, 3) := by decide +kernel
theorem dX7_best_69 : decode cX7_best 69 = .ok (.istore 6, 2) := by decide +kernel
theorem dX7_best_71 : decode cX7_best 71 = .ok (.aload_n 0, 1) := by decide +kernel
theorem dX7_best_72 : decode cX7_best 72 = .ok (.getfield 120, 3) := by decide +kernel
theorem dX7_best_75 : decode cX7_best 75 = .ok (.istore 5, 2) := by decide +kernel
theorem dX7_best_77 : decode cX7_best 77 = .ok (.aload_n 0, 1) := by decide +kernel
theorem dX7_best_78 : decode cX7_best 78 = .ok (.dup, 1) := by decide +kernel
theorem dX7_best_79 : decode cX7_best 79 = .ok (.getfield 120, 3) := by decide +kernel
theorem dX7_best_82 : decode cX7_best 82 = .ok (.iconst 1, 1) := by decide +kernel
theorem dX7_best_83 : decode cX7_best 83 = .ok (.iadd, 1) := by decide +kernel
theorem dX7_best_84 : decode cX7_best 84 = .ok (.putfield 120, 3) := by decide +kernel
theorem dX7_best_87 : decode cX7_best 87 = .ok (.goto (-46), 3) := by decide +kernel
theorem dX7_best_90 : decode cX7_best 90 = .ok (.aload_n 0, 1) := by decide +kernel
theorem dX7_best_91 : decode cX7_best 91 = .ok (.iload 4, 2) := by decide +kernel
theorem dX7_best_93 : decode cX7_best 93 = .ok (.putfield 120, 3) := by decide +kernel
theorem dX7_best_96 : decode cX7_best 96 = .ok (.iload_n 2, 1) := by decide +kernel
theorem dX7_best_97 : decode cX7_best 97 = .ok (.ifCond .ne 8, 3) := by decide +kernel
theorem dX7_best_100 : decode cX7_best 100 = .ok (.iload 5, 2) := by decide +kernel
theorem dX7_best_102 : decode cX7_best 102 = .ok (.goto 5, 3) := by decide +kernel
theorem dX7_best_105 : decode cX7_best 105 = .ok (.iload 6, 2) := by decide +kernel
theorem dX7_best_107 : decode cX7_best 107 = .ok (.ireturn, 1) := by decide +kernel
theorem dX7_highest_0 : decode cX7_highest 0 = .ok (.aload_n 0, 1) := by decide +kernel
theorem dX7_highest_1 : decode cX7_highest 1 = .ok (.iload_n 1, 1) := by decide +kernel
theorem dX7_highest_2 : decode cX7_highest 2 = .ok (.invokevirtual 139, 3) := by decide +kernel
theorem dX7_highest_5 : decode cX7_highest 5 = .ok (.ifCond .ne 5, 3) := by decide +kernel
theorem dX7_highest_8 : decode cX7_highest 8 = .ok (.iconst (-1), 1) := by decide +kernel
theorem dX7_highest_9 : decode cX7_highest 9 = .ok (.ireturn, 1) := by decide +kernel
theorem dX7_highest_10 : decode cX7_highest 10 = .ok (.iload_n 2, 1) := by decide +kernel
theorem dX7_highest_11 : decode cX7_highest 11 = .ok (.iconst 0, 1) := by decide +kernel
theorem dX7_highest_12 : decode cX7_highest 12 = .ok (.bipush 10, 2) := by decide +kernel
theorem dX7_highest_14 : decode cX7_highest 14 = .ok (.invokestatic 74, 3) := by decide +kernel
theorem dX7_highest_17 : decode cX7_highest 17 = .ok (.ifCond .ne 6, 3) := by decide +kernel
theorem dX7_highest_20 : decode cX7_highest 20 = .ok (.bipush (-2), 2) := by decide +kernel
theorem dX7_highest_22 : decode cX7_highest 22 = .ok (.ireturn, 1) := by decide +kernel
theorem dX7_highest_23 : decode cX7_highest 23 = .ok (.aload_n 0, 1) := by decide +kernel
theorem dX7_highest_24 : decode cX7_highest 24 = .ok (.getfield 22, 3) := by decide +kernel
theorem dX7_highest_27 : decode cX7_highest 27 = .ok (.iload_n 1, 1) := by decide +kernel
theorem dX7_highest_28 : decode cX7_highest 28 = .ok (.iaload, 1) := by decide +kernel
theorem dX7_highest_29 : decode cX7_highest 29 = .ok (.istore_n 3, 1) := by decide +kernel
theorem dX7_highest_30 : decode cX7_highest 30 = .ok (.bipush (-9), 2) := by decide +kernel
theorem dX7_highest_32 : decode cX7_highest 32 = .ok (.istore 4, 2) := by decide +kernel
theorem dX7_highest_34 : decode cX7_highest 34 = .ok (.iconst 0, 1) := by decide +kernel
theorem dX7_highest_35 : decode cX7_highest 35 = .ok (.istore 5, 2) := by decide +kernel
theorem dX7_highest_37 : decode cX7_highest 37 = .ok (.iload 5, 2) := by decide +kernel
theorem dX7_highest_39 : decode cX7_highest 39 = .ok (.bipush 9, 2) := by decide +kernel
theorem dX7_highest_41 : decode cX7_highest 41 = .ok (.if_icmp .gt 42, 3) := by decide +kernel
theorem dX7_highest_44 : decode cX7_highest 44 = .ok (.aload_n 0, 1) := by decide +kernel
theorem dX7_highest_45 : decode cX7_highest 45 = .ok (.getfield 22, 3) := by decide +kernel
theorem dX7_highest_48 : decode cX7_highest 48 = .ok (.iload_n 1, 1) := by decide +kernel
theorem dX7_highest_49 : decode cX7_highest 49 = .ok (.iload 5, 2) := by decide +kernel
theorem dX7_highest_51 : decode cX7_highest 51 = .ok (.iastore, 1) := by decide +kernel
theorem dX7_highest_52 : decode cX7_highest 52 = .ok (.aload_n 0, 1) := by decide +kernel
theorem dX7_highest_53 : decode cX7_highest 53 = .ok (.iload_n 2, 1) := by decide +kernel
theorem dX7_highest_54 : decode cX7_highest 54 = .ok (.invokevirtual 189, 3) := by decide +kernel
theorem dX7_highest_57 : decode cX7_highest 57 = .ok (.aload_n 0, 1) := by decide +kernel
theorem dX7_highest_58 : decode cX7_highest 58 = .ok (.iload_n 1, 1) := by decide +kernel
theorem dX7_highest_59 : decode cX7_highest 59 = .ok (.iload_n 2, 1) := by decide +kernel
theorem dX7_highest_60 : decode cX7_highest 60 = .ok (.invokevirtual 192, 3) := by decide +kernel
theorem dX7_highest_63 : decode cX7_highest 63 = .ok (.bipush (-9), 2) := by decide +kernel
theorem dX7_highest_65 : decode cX7_highest 65 = .ok (.if_icmp .ne 8, 3) := by decide +kernel
theorem dX7_highest_68 : decode cX7_highest 68 = .ok (.iload 5, 2) := by decide +kernel
theorem dX7_highest_70 : decode cX7_highest 70 = .ok (.goto 5, 3) := by decide +kernel
theorem dX7_highest_73 : decode cX7_highest 73 = .ok (.iload 4, 2) := by decide +kernel
theorem dX7_highest_75 : decode cX7_highest 75 = .ok (.istore 4, 2) := by decide +kernel
theorem dX7_highest_77 : decode cX7_highest 77 = .ok (.iinc 5 1, 3) := by decide +kernel
theorem dX7_highest_80 : decode cX7_highest 80 = .ok (.goto (-43), 3) := by decide +kernel
theorem dX7_highest_83 : decode cX7_highest 83 = .ok (.aload_n 0, 1) := by decide +kernel
theorem dX7_highest_84 : decode cX7_highest 84 = .ok (.getfield 22, 3) := by decide +kernel
theorem dX7_highest_87 : decode cX7_highest 87 = .ok (.iload_n 1, 1) := by decide +kernel
theorem dX7_highest_88 : decode cX7_highest 88 = .ok (.iload_n 3, 1) := by decide +kernel
theorem dX7_highest_89 : decode cX7_highest 89 = .ok (.iastore, 1) := by decide +kernel
theorem dX7_highest_90 : decode cX7_highest 90 = .ok (.iload 4, 2) := by decide +kernel
theorem dX7_highest_92 : decode cX7_highest 92 = .ok (.ireturn, 1) := by decide +kernel
theorem dX7_inLeastTerms_0 : decode cX7_inLeastTerms 0 = .ok (.lload_n 0, 1) := by decide +kernel
theorem dX7_inLeastTerms_1 : decode cX7_inLeastTerms 1 = .ok (.lstore 5, 2) := by decide +kernel
theorem dX7_inLeastTerms_3 : decode cX7_inLeastTerms 3 = .ok (.lload_n 2, 1) := by decide +kernel
theorem dX7_inLeastTerms_4 : decode cX7_inLeastTerms 4 = .ok (.lstore 7, 2) := by decide +kernel
theorem dX7_inLeastTerms_6 : decode cX7_inLeastTerms 6 = .ok (.lload 7, 2) := by decide +kernel
theorem dX7_inLeastTerms_8 : decode cX7_inLeastTerms 8 = .ok (.lconst 0, 1) := by decide +kernel
theorem dX7_inLeastTerms_9 : decode cX7_inLeastTerms 9 = .ok (.lcmp, 1) := by decide +kernel
theorem dX7_inLeastTerms_10 : decode cX7_inLeastTerms 10 = .ok (.ifCond .eq 21, 3) := by decide +kernel
theorem dX7_inLeastTerms_13 : decode cX7_inLeastTerms 13 = .ok (.lload 5, 2) := by decide +kernel
theorem dX7_inLeastTerms_15 : decode cX7_inLeastTerms 15 = .ok (.lload 7, 2) := by decide +kernel
theorem dX7_inLeastTerms_17 : decode cX7_inLeastTerms 17 = .ok (.lrem, 1) := by decide +kernel
theorem dX7_inLeastTerms_18 : decode cX7_inLeastTerms 18 = .ok (.lstore 9, 2) := by decide +kernel
theorem dX7_inLeastTerms_20 : decode cX7_inLeastTerms 20 = .ok (.lload 7, 2) := by decide +kernel
theorem dX7_inLeastTerms_22 : decode cX7_inLeastTerms 22 = .ok (.lstore 5, 2) := by decide +kernel
theorem dX7_inLeastTerms_24 : decode cX7_inLeastTerms 24 = .ok (.lload 9, 2) := by decide +kernel
theorem dX7_inLeastTerms_26 : decode cX7_inLeastTerms 26 = .ok (.lstore 7, 2) := by decide +kernel
theorem dX7_inLeastTerms_28 : decode cX7_inLeastTerms 28 = .ok (.goto (-22), 3) := by decide +kernel
theorem dX7_inLeastTerms_31 : decode cX7_inLeastTerms 31 = .ok (.iload 4, 2) := by decide +kernel
theorem dX7_inLeastTerms_33 : decode cX7_inLeastTerms 33 = .ok (.ifCond .ne 10, 3) := by decide +kernel
theorem dX7_inLeastTerms_36 : decode cX7_inLeastTerms 36 = .ok (.lload_n 0, 1) := by decide +kernel
theorem dX7_inLeastTerms_37 : decode cX7_inLeastTerms 37 = .ok (.lload 5, 2) := by decide +kernel
theorem dX7_inLeastTerms_39 : decode cX7_inLeastTerms 39 = .ok (.ldiv, 1) := by decide +kernel
theorem dX7_inLeastTerms_40 : decode cX7_inLeastTerms 40 = .ok (.goto 7, 3) := by decide +kernel
theorem dX7_inLeastTerms_43 : decode cX7_inLeastTerms 43 = .ok (.lload_n 2, 1) := by decide +kernel
theorem dX7_inLeastTerms_44 : decode cX7_inLeastTerms 44 = .ok (.lload 5, 2) := by decide +kernel
theorem dX7_inLeastTerms_46 : decode cX7_inLeastTerms 46 = .ok (.ldiv, 1) := by decide +kernel
theorem dX7_inLeastTerms_47 : decode cX7_inLeastTerms 47 = .ok (.lreturn, 1) := by decide +kernel
theorem dX7_worst_0 : decode cX7_worst 0 = .ok (.iload_n 1, 1) := by decide +kernel
theorem dX7_worst_1 : decode cX7_worst 1 = .ok (.iconst 1, 1) := by decide +kernel
theorem dX7_worst_2 : decode cX7_worst 2 = .ok (.bipush 10, 2) := by decide +kernel
theorem dX7_worst_4 : decode cX7_worst 4 = .ok (.invokestatic 74, 3) := by decide +kernel
theorem dX7_worst_7 : decode cX7_worst 7 = .ok (.ifCond .eq 19, 3) := by decide +kernel
theorem dX7_worst_10 : decode cX7_worst 10 = .ok (.iload_n 2, 1) := by decide +kernel
theorem dX7_worst_11 : decode cX7_worst 11 = .ok (.iconst 0, 1) := by decide +kernel
theorem dX7_worst_12 : decode cX7_worst 12 = .ok (.iconst 1, 1) := by decide +kernel
theorem dX7_worst_13 : decode cX7_worst 13 = .ok (.invokestatic 74, 3) := by decide +kernel
theorem dX7_worst_16 : decode cX7_worst 16 = .ok (.ifCond .eq 10, 3) := by decide +kernel
theorem dX7_worst_19 : decode cX7_worst 19 = .ok (.aload_n 0, 1) := by decide +kernel
theorem dX7_worst_20 : decode cX7_worst 20 = .ok (.getfield 78, 3) := by decide +kernel
theorem dX7_worst_23 : decode cX7_worst 23 = .ok (.ifCond .ne 7, 3) := by decide +kernel
theorem dX7_worst_26 : decode cX7_worst 26 = .ok (.ldc2_w 72, 3) := by decide +kernel
theorem dX7_worst_29 : decode cX7_worst 29 = .ok (.lreturn, 1) := by decide +kernel
theorem dX7_worst_30 : decode cX7_worst 30 = .ok (.aload_n 0, 1) := by decide +kernel
theorem dX7_worst_31 : decode cX7_worst 31 = .ok (.iload_n 1, 1) := by decide +kernel
theorem dX7_worst_32 : decode cX7_worst 32 = .ok (.invokevirtual 189, 3) := by decide +kernel
theorem dX7_worst_35 : decode cX7_worst 35 = .ok (.lconst 0, 1) := by decide +kernel
theorem dX7_worst_36 : decode cX7_worst 36 = .ok (.lstore_n 3, 1) := by decide +kernel
theorem dX7_worst_37 : decode cX7_worst 37 = .ok (.lconst 0, 1) := by decide +kernel
theorem dX7_worst_38 : decode cX7_worst 38 = .ok (.lstore 5, 2) := by decide +kernel
theorem dX7_worst_40 : decode cX7_worst 40 = .ok (.iconst 0, 1) := by decide +kernel
theorem dX7_worst_41 : decode cX7_worst 41 = .ok (.istore 7, 2) := by decide +kernel
theorem dX7_worst_43 : decode cX7_worst 43 = .ok (.iload 7, 2) := by decide +kernel
theorem dX7_worst_45 : decode cX7_worst 45 = .ok (.aload_n 0, 1) := by decide +kernel
theorem dX7_worst_46 : decode cX7_worst 46 = .ok (.getfield 78, 3) := by decide +kernel
theorem dX7_worst_49 : decode cX7_worst 49 = .ok (.if_icmp .ge 86, 3) := by decide +kernel
theorem dX7_worst_52 : decode cX7_worst 52 = .ok (.lconst 0, 1) := by decide +kernel
theorem dX7_worst_53 : decode cX7_worst 53 = .ok (.lstore 8, 2) := by decide +kernel
theorem dX7_worst_55 : decode cX7_worst 55 = .ok (.iconst 0, 1) := by decide +kernel
theorem dX7_worst_56 : decode cX7_worst 56 = .ok (.istore 10, 2) := by decide +kernel
theorem dX7_worst_58 : decode cX7_worst 58 = .ok (.iload 10, 2) := by decide +kernel
theorem dX7_worst_60 : decode cX7_worst 60 = .ok (.iload_n 1, 1) := by decide +kernel
theorem dX7_worst_61 : decode cX7_worst 61 = .ok (.if_icmp .ge 28, 3) := by decide +kernel
theorem dX7_worst_64 : decode cX7_worst 64 = .ok (.lload 8, 2) := by decide +kernel
theorem dX7_worst_66 : decode cX7_worst 66 = .ok (.aload_n 0, 1) := by decide +kernel
theorem dX7_worst_67 : decode cX7_worst 67 = .ok (.getfield 43, 3) := by decide +kernel
theorem dX7_worst_70 : decode cX7_worst 70 = .ok (.bipush 6, 2) := by decide +kernel
theorem dX7_worst_72 : decode cX7_worst 72 = .ok (.iload 10, 2) := by decide +kernel
theorem dX7_worst_74 : decode cX7_worst 74 = .ok (.imul, 1) := by decide +kernel
theorem dX7_worst_75 : decode cX7_worst 75 = .ok (.iload 7, 2) := by decide +kernel
theorem dX7_worst_77 : decode cX7_worst 77 = .ok (.iadd, 1) := by decide +kernel
theorem dX7_worst_78 : decode cX7_worst 78 = .ok (.iaload, 1) := by decide +kernel
theorem dX7_worst_79 : decode cX7_worst 79 = .ok (.i2l, 1) := by decide +kernel
theorem dX7_worst_80 : decode cX7_worst 80 = .ok (.ladd, 1) := by decide +kernel
theorem dX7_worst_81 : decode cX7_worst 81 = .ok (.lstore 8, 2) := by decide +kernel
theorem dX7_worst_83 : decode cX7_worst 83 = .ok (.iinc 10 1, 3) := by decide +kernel
theorem dX7_worst_86 : decode cX7_worst 86 = .ok (.goto (-28), 3) := by decide +kernel
theorem dX7_worst_89 : decode cX7_worst 89 = .ok (.iload_n 1, 1) := by decide +kernel
theorem dX7_worst_90 : decode cX7_worst 90 = .ok (.i2l, 1) := by decide +kernel
theorem dX7_worst_91 : decode cX7_worst 91 = .ok (.aload_n 0, 1) := by decide +kernel
theorem dX7_worst_92 : decode cX7_worst 92 = .ok (.getfield 25, 3) := by decide +kernel
theorem dX7_worst_95 : decode cX7_worst 95 = .ok (.iload 7, 2) := by decide +kernel
theorem dX7_worst_97 : decode cX7_worst 97 = .ok (.iaload, 1) := by decide +kernel
theorem dX7_worst_98 : decode cX7_worst 98 = .ok (.i2l, 1) := by decide +kernel
theorem dX7_worst_99 : decode cX7_worst 99 = .ok (.lmul, 1) := by decide +kernel
theorem dX7_worst_100 : decode cX7_worst 100 = .ok (.lstore 10, 2) := by decide +kernel
theorem dX7_worst_102 : decode cX7_worst 102 = .ok (.lload 5, 2) := by decide +kernel
theorem dX7_worst_104 : decode cX7_worst 104 = .ok (.lconst 0, 1) := by decide +kernel
theorem dX7_worst_105 : decode cX7_worst 105 = .ok (.lcmp, 1) := by decide +kernel
theorem dX7_worst_106 : decode cX7_worst 106 = .ok (.ifCond .eq 16, 3) := by decide +kernel
theorem dX7_worst_109 : decode cX7_worst 109 = .ok (.lload 8, 2) := by decide +kernel
theorem dX7_worst_111 : decode cX7_worst 111 = .ok (.lload 5, 2) := by decide +kernel
theorem dX7_worst_113 : decode cX7_worst 113 = .ok (.lmul, 1) := by decide +kernel
theorem dX7_worst_114 : decode cX7_worst 114 = .ok (.lload_n 3, 1) := by decide +kernel
theorem dX7_worst_115 : decode cX7_worst 115 = .ok (.lload 10, 2) := by decide +kernel
theorem dX7_worst_117 : decode cX7_worst 117 = .ok (.lmul, 1) := by decide +kernel
theorem dX7_worst_118 : decode cX7_worst 118 = .ok (.lcmp, 1) := by decide +kernel
theorem dX7_worst_119 : decode cX7_worst 119 = .ok (.ifCond .ge 10, 3) := by decide +kernel
theorem dX7_worst_122 : decode cX7_worst 122 = .ok (.lload 8, 2) := by decide +kernel
theorem dX7_worst_124 : decode cX7_worst 124 = .ok (.lstore_n 3, 1) := by decide +kernel
theorem dX7_worst_125 : decode cX7_worst 125 = .ok (.lload 10, 2) := by decide +kernel
theorem dX7_worst_127 : decode cX7_worst 127 = .ok (.lstore 5, 2) := by decide +kernel
theorem dX7_worst_129 : decode cX7_worst 129 = .ok (.iinc 7 1, 3) := by decide +kernel
theorem dX7_worst_132 : decode cX7_worst 132 = .ok (.goto (-89), 3) := by decide +kernel
theorem dX7_worst_135 : decode cX7_worst 135 = .ok (.lload_n 3, 1) := by decide +kernel
theorem dX7_worst_136 : decode cX7_worst 136 = .ok (.lload 5, 2) := by decide +kernel
theorem dX7_worst_138 : decode cX7_worst 138 = .ok (.iload_n 2, 1) := by decide +kernel
theorem dX7_worst_139 : decode cX7_worst 139 = .ok (.invokestatic 205, 3) := by decide +kernel
theorem dX7_worst_142 : decode cX7_worst 142 = .ok (.lreturn, 1) := by decide +kernel
theorem dX7_risk_0 : decode cX7_risk 0 = .ok (.aload_n 0, 1) := by decide +kernel
theorem dX7_risk_1 : decode cX7_risk 1 = .ok (.iload_n 1, 1) := by decide +kernel
theorem dX7_risk_2 : decode cX7_risk 2 = .ok (.invokevirtual 139, 3) := by decide +kernel
theorem dX7_risk_5 : decode cX7_risk 5 = .ok (.ifCond .eq 44, 3) := by decide +kernel
theorem dX7_risk_8 : decode cX7_risk 8 = .ok (.iload_n 2, 1) := by decide +kernel
theorem dX7_risk_9 : decode cX7_risk 9 = .ok (.iconst 0, 1) := by decide +kernel
theorem dX7_risk_10 : decode cX7_risk 10 = .ok (.bipush 6, 2) := by decide +kernel
theorem dX7_risk_12 : decode cX7_risk 12 = .ok (.invokestatic 74, 3) := by decide +kernel
theorem dX7_risk_15 : decode cX7_risk 15 = .ok (.ifCond .eq 34, 3) := by decide +kernel
theorem dX7_risk_18 : decode cX7_risk 18 = .ok (.iload_n 3, 1) := by decide +kernel
theorem dX7_risk_19 : decode cX7_risk 19 = .ok (.iconst 0, 1) := by decide +kernel
theorem dX7_risk_20 : decode cX7_risk 20 = .ok (.bipush 99, 2) := by decide +kernel
theorem dX7_risk_22 : decode cX7_risk 22 = .ok (.invokestatic 74, 3) := by decide +kernel
theorem dX7_risk_25 : decode cX7_risk 25 = .ok (.ifCond .eq 24, 3) := by decide +kernel
theorem dX7_risk_28 : decode cX7_risk 28 = .ok (.iload 4, 2) := by decide +kernel
theorem dX7_risk_30 : decode cX7_risk 30 = .ok (.iconst 0, 1) := by decide +kernel
theorem dX7_risk_31 : decode cX7_risk 31 = .ok (.bipush 99, 2) := by decide +kernel
theorem dX7_risk_33 : decode cX7_risk 33 = .ok (.invokestatic 74, 3) := by decide +kernel
theorem dX7_risk_36 : decode cX7_risk 36 = .ok (.ifCond .eq 13, 3) := by decide +kernel
theorem dX7_risk_39 : decode cX7_risk 39 = .ok (.iload 5, 2) := by decide +kernel
theorem dX7_risk_41 : decode cX7_risk 41 = .ok (.iconst 0, 1) := by decide +kernel
theorem dX7_risk_42 : decode cX7_risk 42 = .ok (.iconst 1, 1) := by decide +kernel
theorem dX7_risk_43 : decode cX7_risk 43 = .ok (.invokestatic 74, 3) := by decide +kernel
theorem dX7_risk_46 : decode cX7_risk 46 = .ok (.ifCond .ne 7, 3) := by decide +kernel
theorem dX7_risk_49 : decode cX7_risk 49 = .ok (.ldc2_w 72, 3) := by decide +kernel
theorem dX7_risk_52 : decode cX7_risk 52 = .ok (.lreturn, 1) := by decide +kernel
theorem dX7_risk_53 : decode cX7_risk 53 = .ok (.iconst 0, 1) := by decide +kernel
theorem dX7_risk_54 : decode cX7_risk 54 = .ok (.istore 6, 2) := by decide +kernel
theorem dX7_risk_56 : decode cX7_risk 56 = .ok (.iload 6, 2) := by decide +kernel
theorem dX7_risk_58 : decode cX7_risk 58 = .ok (.bipush 10, 2) := by decide +kernel
theorem dX7_risk_60 : decode cX7_risk 60 = .ok (.if_icmp .ge 23, 3) := by decide +kernel
theorem dX7_risk_63 : decode cX7_risk 63 = .ok (.aload_n 0, 1) := by decide +kernel
theorem dX7_risk_64 : decode cX7_risk 64 = .ok (.getfield 60, 3) := by decide +kernel
theorem dX7_risk_67 : decode cX7_risk 67 = .ok (.iload 6, 2) := by decide +kernel
theorem dX7_risk_69 : decode cX7_risk 69 = .ok (.aload_n 0, 1) := by decide +kernel
theorem dX7_risk_70 : decode cX7_risk 70 = .ok (.getfield 31, 3) := by decide +kernel
theorem dX7_risk_73 : decode cX7_risk 73 = .ok (.iload 6, 2) := by decide +kernel
theorem dX7_risk_75 : decode cX7_risk 75 = .ok (.iaload, 1) := by decide +kernel
theorem dX7_risk_76 : decode cX7_risk 76 = .ok (.iastore, 1) := by decide +kernel
theorem dX7_risk_77 : decode cX7_risk 77 = .ok (.iinc 6 1, 3) := by decide +kernel
theorem dX7_risk_80 : decode cX7_risk 80 = .ok (.goto (-24), 3) := by decide +kernel
theorem dX7_risk_83 : decode cX7_risk 83 = .ok (.iconst 0, 1) := by decide +kernel
theorem dX7_risk_84 : decode cX7_risk 84 = .ok (.istore 6, 2) := by decide +kernel
theorem dX7_risk_86 : decode cX7_risk 86 = .ok (.iconst 0, 1) := by decide +kernel
theorem dX7_risk_87 : decode cX7_risk 87 = .ok (.istore 7, 2) := by decide +kernel
theorem dX7_risk_89 : decode cX7_risk 89 = .ok (.iload 7, 2) := by decide +kernel
theorem dX7_risk_91 : decode cX7_risk 91 = .ok (.iconst 1, 1) := by decide +kernel
theorem dX7_risk_92 : decode cX7_risk 92 = .ok (.iload_n 2, 1) := by decide +kernel
theorem dX7_risk_93 : decode cX7_risk 93 = .ok (.ishl, 1) := by decide +kernel
theorem dX7_risk_94 : decode cX7_risk 94 = .ok (.if_icmp .ge 73, 3) := by decide +kernel
theorem dX7_risk_97 : decode cX7_risk 97 = .ok (.iconst 0, 1) := by decide +kernel
theorem dX7_risk_98 : decode cX7_risk 98 = .ok (.istore 8, 2) := by decide +kernel
theorem dX7_risk_100 : decode cX7_risk 100 = .ok (.iload 8, 2) := by decide +kernel
theorem dX7_risk_102 : decode cX7_risk 102 = .ok (.iload_n 2, 1) := by decide +kernel
theorem dX7_risk_103 : decode cX7_risk 103 = .ok (.if_icmp .ge 32, 3) := by decide +kernel
theorem dX7_risk_106 : decode cX7_risk 106 = .ok (.aload_n 0, 1) := by decide +kernel
theorem dX7_risk_107 : decode cX7_risk 107 = .ok (.getfield 31, 3) := by decide +kernel
theorem dX7_risk_110 : decode cX7_risk 110 = .ok (.iload 8, 2) := by decide +kernel
theorem dX7_risk_112 : decode cX7_risk 112 = .ok (.iload 7, 2) := by decide +kernel
theorem dX7_risk_114 : decode cX7_risk 114 = .ok (.iload 8, 2) := by decide +kernel
theorem dX7_risk_116 : decode cX7_risk 116 = .ok (.ishr, 1) := by decide +kernel
theorem dX7_risk_117 : decode cX7_risk 117 = .ok (.iconst 1, 1) := by decide +kernel
theorem dX7_risk_118 : decode cX7_risk 118 = .ok (.iand, 1) := by decide +kernel
theorem dX7_risk_119 : decode cX7_risk 119 = .ok (.ifCond .ne 7, 3) := by decide +kernel
theorem dX7_risk_122 : decode cX7_risk 122 = .ok (.iload_n 3, 1) := by decide +kernel
theorem dX7_risk_123 : decode cX7_risk 123 = .ok (.goto 5, 3) := by decide +kernel
theorem dX7_risk_126 : decode cX7_risk 126 = .ok (.iload 4, 2) := by decide +kernel
theorem dX7_risk_128 : decode cX7_risk 128 = .ok (.iastore, 1) := by decide +kernel
theorem dX7_risk_129 : decode cX7_risk 129 = .ok (.iinc 8 1, 3) := by decide +kernel
theorem dX7_risk_132 : decode cX7_risk 132 = .ok (.goto (-32), 3) := by decide +kernel
theorem dX7_risk_135 : decode cX7_risk 135 = .ok (.aload_n 0, 1) := by decide +kernel
theorem dX7_risk_136 : decode cX7_risk 136 = .ok (.iload_n 2, 1) := by decide +kernel
theorem dX7_risk_137 : decode cX7_risk 137 = .ok (.invokevirtual 189, 3) := by decide +kernel
theorem dX7_risk_140 : decode cX7_risk 140 = .ok (.iload 6, 2) := by decide +kernel
theorem dX7_risk_142 : decode cX7_risk 142 = .ok (.aload_n 0, 1) := by decide +kernel
theorem dX7_risk_143 : decode cX7_risk 143 = .ok (.iload_n 1, 1) := by decide +kernel
theorem dX7_risk_144 : decode cX7_risk 144 = .ok (.iload_n 2, 1) := by decide +kernel
theorem dX7_risk_145 : decode cX7_risk 145 = .ok (.invokevirtual 192, 3) := by decide +kernel
theorem dX7_risk_148 : decode cX7_risk 148 = .ok (.bipush (-9), 2) := by decide +kernel
theorem dX7_risk_150 : decode cX7_risk 150 = .ok (.if_icmp .ne 7, 3) := by decide +kernel
theorem dX7_risk_153 : decode cX7_risk 153 = .ok (.iconst 0, 1) := by decide +kernel
theorem dX7_risk_154 : decode cX7_risk 154 = .ok (.goto 4, 3) := by decide +kernel
theorem dX7_risk_157 : decode cX7_risk 157 = .ok (.iconst 1, 1) := by decide +kernel
theorem dX7_risk_158 : decode cX7_risk 158 = .ok (.iadd, 1) := by decide +kernel
theorem dX7_risk_159 : decode cX7_risk 159 = .ok (.istore 6, 2) := by decide +kernel
theorem dX7_risk_161 : decode cX7_risk 161 = .ok (.iinc 7 1, 3) := by decide +kernel
theorem dX7_risk_164 : decode cX7_risk 164 = .ok (.goto (-75), 3) := by decide +kernel
theorem dX7_risk_167 : decode cX7_risk 167 = .ok (.iconst 0, 1) := by decide +kernel
theorem dX7_risk_168 : decode cX7_risk 168 = .ok (.istore 7, 2) := by decide +kernel
theorem dX7_risk_170 : decode cX7_risk 170 = .ok (.iload 7, 2) := by decide +kernel
theorem dX7_risk_172 : decode cX7_risk 172 = .ok (.bipush 10, 2) := by decide +kernel
theorem dX7_risk_174 : decode cX7_risk 174 = .ok (.if_icmp .ge 23, 3) := by decide +kernel
theorem dX7_risk_177 : decode cX7_risk 177 = .ok (.aload_n 0, 1) := by decide +kernel
theorem dX7_risk_178 : decode cX7_risk 178 = .ok (.getfield 31, 3) := by decide +kernel
theorem dX7_risk_181 : decode cX7_risk 181 = .ok (.iload 7, 2) := by decide +kernel
theorem dX7_risk_183 : decode cX7_risk 183 = .ok (.aload_n 0, 1) := by decide +kernel
theorem dX7_risk_184 : decode cX7_risk 184 = .ok (.getfield 60, 3) := by decide +kernel
theorem dX7_risk_187 : decode cX7_risk 187 = .ok (.iload 7, 2) := by decide +kernel
theorem dX7_risk_189 : decode cX7_risk 189 = .ok (.iaload, 1) := by decide +kernel
theorem dX7_risk_190 : decode cX7_risk 190 = .ok (.iastore, 1) := by decide +kernel
theorem dX7_risk_191 : decode cX7_risk 191 = .ok (.iinc 7 1, 3) := by decide +kernel
theorem dX7_risk_194 : decode cX7_risk 194 = .ok (.goto (-24), 3) := by decide +kernel
theorem dX7_risk_197 : decode cX7_risk 197 = .ok (.iload 6, 2) := by decide +kernel
theorem dX7_risk_199 : decode cX7_risk 199 = .ok (.i2l, 1) := by decide +kernel
theorem dX7_risk_200 : decode cX7_risk 200 = .ok (.lconst 1, 1) := by decide +kernel
theorem dX7_risk_201 : decode cX7_risk 201 = .ok (.iload_n 2, 1) := by decide +kernel
theorem dX7_risk_202 : decode cX7_risk 202 = .ok (.lshl, 1) := by decide +kernel
theorem dX7_risk_203 : decode cX7_risk 203 = .ok (.iload 5, 2) := by decide +kernel
theorem dX7_risk_205 : decode cX7_risk 205 = .ok (.invokestatic 205, 3) := by decide +kernel
theorem dX7_risk_208 : decode cX7_risk 208 = .ok (.lreturn, 1) := by decide +kernel
theorem dX7_mark_0 : decode cX7_mark 0 = .ok (.iload_n 1, 1) := by decide +kernel
theorem dX7_mark_1 : decode cX7_mark 1 = .ok (.iconst 0, 1) := by decide +kernel
theorem dX7_mark_2 : decode cX7_mark 2 = .ok (.bipush 10, 2) := by decide +kernel
theorem dX7_mark_4 : decode cX7_mark 4 = .ok (.invokestatic 74, 3) := by decide +kernel
theorem dX7_mark_7 : decode cX7_mark 7 = .ok (.ifCond .ne 5, 3) := by decide +kernel
theorem dX7_mark_10 : decode cX7_mark 10 = .ok (.iconst (-1), 1) := by decide +kernel
theorem dX7_mark_11 : decode cX7_mark 11 = .ok (.ireturn, 1) := by decide +kernel
theorem dX7_mark_12 : decode cX7_mark 12 = .ok (.iload_n 2, 1) := by decide +kernel
theorem dX7_mark_13 : decode cX7_mark 13 = .ok (.iconst 0, 1) := by decide +kernel
theorem dX7_mark_14 : decode cX7_mark 14 = .ok (.bipush 99, 2) := by decide +kernel
theorem dX7_mark_16 : decode cX7_mark 16 = .ok (.invokestatic 74, 3) := by decide +kernel
theorem dX7_mark_19 : decode cX7_mark 19 = .ok (.ifCond .ne 6, 3) := by decide +kernel
theorem dX7_mark_22 : decode cX7_mark 22 = .ok (.bipush (-2), 2) := by decide +kernel
theorem dX7_mark_24 : decode cX7_mark 24 = .ok (.ireturn, 1) := by decide +kernel
theorem dX7_mark_25 : decode cX7_mark 25 = .ok (.aload_n 0, 1) := by decide +kernel
theorem dX7_mark_26 : decode cX7_mark 26 = .ok (.getfield 78, 3) := by decide +kernel
theorem dX7_mark_29 : decode cX7_mark 29 = .ok (.ifCond .ne 6, 3) := by decide +kernel
theorem dX7_mark_32 : decode cX7_mark 32 = .ok (.bipush (-3), 2) := by decide +kernel
theorem dX7_mark_34 : decode cX7_mark 34 = .ok (.ireturn, 1) := by decide +kernel
theorem dX7_mark_35 : decode cX7_mark 35 = .ok (.aload_n 0, 1) := by decide +kernel
theorem dX7_mark_36 : decode cX7_mark 36 = .ok (.getfield 129, 3) := by decide +kernel
theorem dX7_mark_39 : decode cX7_mark 39 = .ok (.bipush 8, 2) := by decide +kernel
theorem dX7_mark_41 : decode cX7_mark 41 = .ok (.if_icmp .ne 6, 3) := by decide +kernel
theorem dX7_mark_44 : decode cX7_mark 44 = .ok (.bipush (-4), 2) := by decide +kernel
theorem dX7_mark_46 : decode cX7_mark 46 = .ok (.ireturn, 1) := by decide +kernel
theorem dX7_mark_47 : decode cX7_mark 47 = .ok (.aload_n 0, 1) := by decide +kernel
theorem dX7_mark_48 : decode cX7_mark 48 = .ok (.getfield 63, 3) := by decide +kernel
theorem dX7_mark_51 : decode cX7_mark 51 = .ok (.aload_n 0, 1) := by decide +kernel
theorem dX7_mark_52 : decode cX7_mark 52 = .ok (.getfield 129, 3) := by decide +kernel
theorem dX7_mark_55 : decode cX7_mark 55 = .ok (.iload_n 1, 1) := by decide +kernel
theorem dX7_mark_56 : decode cX7_mark 56 = .ok (.iastore, 1) := by decide +kernel
theorem dX7_mark_57 : decode cX7_mark 57 = .ok (.aload_n 0, 1) := by decide +kernel
theorem dX7_mark_58 : decode cX7_mark 58 = .ok (.getfield 66, 3) := by decide +kernel
theorem dX7_mark_61 : decode cX7_mark 61 = .ok (.aload_n 0, 1) := by decide +kernel
theorem dX7_mark_62 : decode cX7_mark 62 = .ok (.getfield 129, 3) := by decide +kernel
theorem dX7_mark_65 : decode cX7_mark 65 = .ok (.iload_n 2, 1) := by decide +kernel
theorem dX7_mark_66 : decode cX7_mark 66 = .ok (.iastore, 1) := by decide +kernel
theorem dX7_mark_67 : decode cX7_mark 67 = .ok (.aload_n 0, 1) := by decide +kernel
theorem dX7_mark_68 : decode cX7_mark 68 = .ok (.dup, 1) := by decide +kernel
theorem dX7_mark_69 : decode cX7_mark 69 = .ok (.getfield 129, 3) := by decide +kernel
theorem dX7_mark_72 : decode cX7_mark 72 = .ok (.iconst 1, 1) := by decide +kernel
theorem dX7_mark_73 : decode cX7_mark 73 = .ok (.iadd, 1) := by decide +kernel
theorem dX7_mark_74 : decode cX7_mark 74 = .ok (.putfield 129, 3) := by decide +kernel
theorem dX7_mark_77 : decode cX7_mark 77 = .ok (.aload_n 0, 1) := by decide +kernel
theorem dX7_mark_78 : decode cX7_mark 78 = .ok (.getfield 129, 3) := by decide +kernel
theorem dX7_mark_81 : decode cX7_mark 81 = .ok (.iconst 1, 1) := by decide +kernel
theorem dX7_mark_82 : decode cX7_mark 82 = .ok (.isub, 1) := by decide +kernel
theorem dX7_mark_83 : decode cX7_mark 83 = .ok (.ireturn, 1) := by decide +kernel
theorem dX7_back_0 : decode cX7_back 0 = .ok (.iload_n 1, 1) := by decide +kernel
theorem dX7_back_1 : decode cX7_back 1 = .ok (.iconst 0, 1) := by decide +kernel
theorem dX7_back_2 : decode cX7_back 2 = .ok (.aload_n 0, 1) := by decide +kernel
theorem dX7_back_3 : decode cX7_back 3 = .ok (.getfield 129, 3) := by decide +kernel
theorem dX7_back_6 : decode cX7_back 6 = .ok (.invokestatic 74, 3) := by decide +kernel
theorem dX7_back_9 : decode cX7_back 9 = .ok (.ifCond .ne 6, 3) := by decide +kernel
theorem dX7_back_12 : decode cX7_back 12 = .ok (.bipush (-2), 2) := by decide +kernel
theorem dX7_back_14 : decode cX7_back 14 = .ok (.ireturn, 1) := by decide +kernel
theorem dX7_back_15 : decode cX7_back 15 = .ok (.aload_n 0, 1) := by decide +kernel
theorem dX7_back_16 : decode cX7_back 16 = .ok (.dup, 1) := by decide +kernel
theorem dX7_back_17 : decode cX7_back 17 = .ok (.getfield 129, 3) := by decide +kernel
theorem dX7_back_20 : decode cX7_back 20 = .ok (.iload_n 1, 1) := by decide +kernel
theorem dX7_back_21 : decode cX7_back 21 = .ok (.isub, 1) := by decide +kernel
theorem dX7_back_22 : decode cX7_back 22 = .ok (.putfield 129, 3) := by decide +kernel
theorem dX7_back_25 : decode cX7_back 25 = .ok (.aload_n 0, 1) := by decide +kernel
theorem dX7_back_26 : decode cX7_back 26 = .ok (.getfield 129, 3) := by decide +kernel
theorem dX7_back_29 : decode cX7_back 29 = .ok (.ireturn, 1) := by decide +kernel
theorem dX7_areSo_0 : decode cX7_areSo 0 = .ok (.aload_n 0, 1) := by decide +kernel
theorem dX7_areSo_1 : decode cX7_areSo 1 = .ok (.bipush 10, 2) := by decide +kernel
theorem dX7_areSo_3 : decode cX7_areSo 3 = .ok (.invokevirtual 189, 3) := by decide +kernel
theorem dX7_areSo_6 : decode cX7_areSo 6 = .ok (.iconst 0, 1) := by decide +kernel
theorem dX7_areSo_7 : decode cX7_areSo 7 = .ok (.istore_n 1, 1) := by decide +kernel
theorem dX7_areSo_8 : decode cX7_areSo 8 = .ok (.iload_n 1, 1) := by decide +kernel
theorem dX7_areSo_9 : decode cX7_areSo 9 = .ok (.aload_n 0, 1) := by decide +kernel
theorem dX7_areSo_10 : decode cX7_areSo 10 = .ok (.getfield 129, 3) := by decide +kernel
theorem dX7_areSo_13 : decode cX7_areSo 13 = .ok (.if_icmp .ge 31, 3) := by decide +kernel
theorem dX7_areSo_16 : decode cX7_areSo 16 = .ok (.aload_n 0, 1) := by decide +kernel
theorem dX7_areSo_17 : decode cX7_areSo 17 = .ok (.getfield 40, 3) := by decide +kernel
theorem dX7_areSo_20 : decode cX7_areSo 20 = .ok (.aload_n 0, 1) := by decide +kernel
theorem dX7_areSo_21 : decode cX7_areSo 21 = .ok (.getfield 63, 3) := by decide +kernel
theorem dX7_areSo_24 : decode cX7_areSo 24 = .ok (.iload_n 1, 1) := by decide +kernel
theorem dX7_areSo_25 : decode cX7_areSo 25 = .ok (.iaload, 1) := by decide +kernel
theorem dX7_areSo_26 : decode cX7_areSo 26 = .ok (.iaload, 1) := by decide +kernel
theorem dX7_areSo_27 : decode cX7_areSo 27 = .ok (.aload_n 0, 1) := by decide +kernel
theorem dX7_areSo_28 : decode cX7_areSo 28 = .ok (.getfield 66, 3) := by decide +kernel
theorem dX7_areSo_31 : decode cX7_areSo 31 = .ok (.iload_n 1, 1) := by decide +kernel
theorem dX7_areSo_32 : decode cX7_areSo 32 = .ok (.iaload, 1) := by decide +kernel
theorem dX7_areSo_33 : decode cX7_areSo 33 = .ok (.if_icmp .eq 5, 3) := by decide +kernel
theorem dX7_areSo_36 : decode cX7_areSo 36 = .ok (.iconst 0, 1) := by decide +kernel
theorem dX7_areSo_37 : decode cX7_areSo 37 = .ok (.ireturn, 1) := by decide +kernel
theorem dX7_areSo_38 : decode cX7_areSo 38 = .ok (.iinc 1 1, 3) := by decide +kernel
theorem dX7_areSo_41 : decode cX7_areSo 41 = .ok (.goto (-33), 3) := by decide +kernel
theorem dX7_areSo_44 : decode cX7_areSo 44 = .ok (.iconst 1, 1) := by decide +kernel
theorem dX7_areSo_45 : decode cX7_areSo 45 = .ok (.ireturn, 1) := by decide +kernel
theorem dX7_rains_0 : decode cX7_rains 0 = .ok (.iload_n 1, 1) := by decide +kernel
theorem dX7_rains_1 : decode cX7_rains 1 = .ok (.invokestatic 145, 3) := by decide +kernel
theorem dX7_rains_4 : decode cX7_rains 4 = .ok (.ifCond .eq 8, 3) := by decide +kernel
theorem dX7_rains_7 : decode cX7_rains 7 = .ok (.iload_n 2, 1) := by decide +kernel
theorem dX7_rains_8 : decode cX7_rains 8 = .ok (.iconst (-1), 1) := by decide +kernel
theorem dX7_rains_9 : decode cX7_rains 9 = .ok (.if_icmp .ge 5, 3) := by decide +kernel
theorem dX7_rains_12 : decode cX7_rains 12 = .ok (.iconst (-1), 1) := by decide +kernel
theorem dX7_rains_13 : decode cX7_rains 13 = .ok (.ireturn, 1) := by decide +kernel
theorem dX7_rains_14 : decode cX7_rains 14 = .ok (.aload_n 0, 1) := by decide +kernel
theorem dX7_rains_15 : decode cX7_rains 15 = .ok (.getfield 78, 3) := by decide +kernel
theorem dX7_rains_18 : decode cX7_rains 18 = .ok (.ifCond .ne 6, 3) := by decide +kernel
theorem dX7_rains_21 : decode cX7_rains 21 = .ok (.bipush (-3), 2) := by decide +kernel
theorem dX7_rains_23 : decode cX7_rains 23 = .ok (.ireturn, 1) := by decide +kernel
theorem dX7_rains_24 : decode cX7_rains 24 = .ok (.aload_n 0, 1) := by decide +kernel
theorem dX7_rains_25 : decode cX7_rains 25 = .ok (.getfield 31, 3) := by decide +kernel
theorem dX7_rains_28 : decode cX7_rains 28 = .ok (.iload_n 1, 1) := by decide +kernel
theorem dX7_rains_29 : decode cX7_rains 29 = .ok (.iaload, 1) := by decide +kernel
theorem dX7_rains_30 : decode cX7_rains 30 = .ok (.istore_n 3, 1) := by decide +kernel
theorem dX7_rains_31 : decode cX7_rains 31 = .ok (.iconst 0, 1) := by decide +kernel
theorem dX7_rains_32 : decode cX7_rains 32 = .ok (.istore 4, 2) := by decide +kernel
theorem dX7_rains_34 : decode cX7_rains 34 = .ok (.bipush (-9), 2) := by decide +kernel
theorem dX7_rains_36 : decode cX7_rains 36 = .ok (.istore 5, 2) := by decide +kernel
theorem dX7_rains_38 : decode cX7_rains 38 = .ok (.iconst 0, 1) := by decide +kernel
theorem dX7_rains_39 : decode cX7_rains 39 = .ok (.istore 6, 2) := by decide +kernel
theorem dX7_rains_41 : decode cX7_rains 41 = .ok (.iload 6, 2) := by decide +kernel
theorem dX7_rains_43 : decode cX7_rains 43 = .ok (.bipush 99, 2) := by decide +kernel
theorem dX7_rains_45 : decode cX7_rains 45 = .ok (.if_icmp .gt 58, 3) := by decide +kernel
theorem dX7_rains_48 : decode cX7_rains 48 = .ok (.aload_n 0, 1) := by decide +kernel
theorem dX7_rains_49 : decode cX7_rains 49 = .ok (.getfield 31, 3) := by decide +kernel
theorem dX7_rains_52 : decode cX7_rains 52 = .ok (.iload_n 1, 1) := by decide +kernel
theorem dX7_rains_53 : decode cX7_rains 53 = .ok (.iload 6, 2) := by decide +kernel
theorem dX7_rains_55 : decode cX7_rains 55 = .ok (.iastore, 1) := by decide +kernel
theorem dX7_rains_56 : decode cX7_rains 56 = .ok (.aload_n 0, 1) := by decide +kernel
theorem dX7_rains_57 : decode cX7_rains 57 = .ok (.invokevirtual 209, 3) := by decide +kernel
theorem dX7_rains_60 : decode cX7_rains 60 = .ok (.istore 7, 2) := by decide +kernel
theorem dX7_rains_62 : decode cX7_rains 62 = .ok (.iload 7, 2) := by decide +kernel
theorem dX7_rains_64 : decode cX7_rains 64 = .ok (.ifCond .eq 14, 3) := by decide +kernel
theorem dX7_rains_67 : decode cX7_rains 67 = .ok (.iload 4, 2) := by decide +kernel
theorem dX7_rains_69 : decode cX7_rains 69 = .ok (.iload_n 2, 1) := by decide +kernel
theorem dX7_rains_70 : decode cX7_rains 70 = .ok (.if_icmp .ne 8, 3) := by decide +kernel
theorem dX7_rains_73 : decode cX7_rains 73 = .ok (.iload 6, 2) := by decide +kernel
theorem dX7_rains_75 : decode cX7_rains 75 = .ok (.goto 5, 3) := by decide +kernel
theorem dX7_rains_78 : decode cX7_rains 78 = .ok (.iload 5, 2) := by decide +kernel
theorem dX7_rains_80 : decode cX7_rains 80 = .ok (.istore 5, 2) := by decide +kernel
theorem dX7_rains_82 : decode cX7_rains 82 = .ok (.iload 4, 2) := by decide +kernel
theorem dX7_rains_84 : decode cX7_rains 84 = .ok (.iload 7, 2) := by decide +kernel
theorem dX7_rains_86 : decode cX7_rains 86 = .ok (.ifCond .eq 7, 3) := by decide +kernel
theorem dX7_rains_89 : decode cX7_rains 89 = .ok (.iconst 1, 1) := by decide +kernel
theorem dX7_rains_90 : decode cX7_rains 90 = .ok (.goto 4, 3) := by decide +kernel
theorem dX7_rains_93 : decode cX7_rains 93 = .ok (.iconst 0, 1) := by decide +kernel
theorem dX7_rains_94 : decode cX7_rains 94 = .ok (.iadd, 1) := by decide +kernel
theorem dX7_rains_95 : decode cX7_rains 95 = .ok (.istore 4, 2) := by decide +kernel
theorem dX7_rains_97 : decode cX7_rains 97 = .ok (.iinc 6 1, 3) := by decide +kernel
theorem dX7_rains_100 : decode cX7_rains 100 = .ok (.goto (-59), 3) := by decide +kernel
theorem dX7_rains_103 : decode cX7_rains 103 = .ok (.aload_n 0, 1) := by decide +kernel
theorem dX7_rains_104 : decode cX7_rains 104 = .ok (.getfield 31, 3) := by decide +kernel
theorem dX7_rains_107 : decode cX7_rains 107 = .ok (.iload_n 1, 1) := by decide +kernel
theorem dX7_rains_108 : decode cX7_rains 108 = .ok (.iload_n 3, 1) := by decide +kernel
theorem dX7_rains_109 : decode cX7_rains 109 = .ok (.iastore, 1) := by decide +kernel
theorem dX7_rains_110 : decode cX7_rains 110 = .ok (.iload_n 2, 1) := by decide +kernel
theorem dX7_rains_111 : decode cX7_rains 111 = .ok (.iconst (-1), 1) := by decide +kernel
theorem dX7_rains_112 : decode cX7_rains 112 = .ok (.if_icmp .ne 8, 3) := by decide +kernel
theorem dX7_rains_115 : decode cX7_rains 115 = .ok (.iload 4, 2) := by decide +kernel
theorem dX7_rains_117 : decode cX7_rains 117 = .ok (.goto 5, 3) := by decide +kernel
theorem dX7_rains_120 : decode cX7_rains 120 = .ok (.iload 5, 2) := by decide +kernel
theorem dX7_rains_122 : decode cX7_rains 122 = .ok (.ireturn, 1) := by decide +kernel
theorem dX7_thief_0 : decode cX7_thief 0 = .ok (.iload_n 1, 1) := by decide +kernel
theorem dX7_thief_1 : decode cX7_thief 1 = .ok (.invokestatic 145, 3) := by decide +kernel
theorem dX7_thief_4 : decode cX7_thief 4 = .ok (.ifCond .ne 5, 3) := by decide +kernel
theorem dX7_thief_7 : decode cX7_thief 7 = .ok (.iconst (-1), 1) := by decide +kernel
theorem dX7_thief_8 : decode cX7_thief 8 = .ok (.ireturn, 1) := by decide +kernel
theorem dX7_thief_9 : decode cX7_thief 9 = .ok (.iload_n 2, 1) := by decide +kernel
theorem dX7_thief_10 : decode cX7_thief 10 = .ok (.iconst 1, 1) := by decide +kernel
theorem dX7_thief_11 : decode cX7_thief 11 = .ok (.bipush 9, 2) := by decide +kernel
theorem dX7_thief_13 : decode cX7_thief 13 = .ok (.invokestatic 74, 3) := by decide +kernel
theorem dX7_thief_16 : decode cX7_thief 16 = .ok (.ifCond .ne 6, 3) := by decide +kernel
theorem dX7_thief_19 : decode cX7_thief 19 = .ok (.bipush (-2), 2) := by decide +kernel
theorem dX7_thief_21 : decode cX7_thief 21 = .ok (.ireturn, 1) := by decide +kernel
theorem dX7_thief_22 : decode cX7_thief 22 = .ok (.aload_n 0, 1) := by decide +kernel
theorem dX7_thief_23 : decode cX7_thief 23 = .ok (.getfield 78, 3) := by decide +kernel
theorem dX7_thief_26 : decode cX7_thief 26 = .ok (.ifCond .ne 6, 3) := by decide +kernel
theorem dX7_thief_29 : decode cX7_thief 29 = .ok (.bipush (-3), 2) := by decide +kernel
theorem dX7_thief_31 : decode cX7_thief 31 = .ok (.ireturn, 1) := by decide +kernel
theorem dX7_thief_32 : decode cX7_thief 32 = .ok (.iconst 0, 1) := by decide +kernel
theorem dX7_thief_33 : decode cX7_thief 33 = .ok (.istore_n 3, 1) := by decide +kernel
theorem dX7_thief_34 : decode cX7_thief 34 = .ok (.aload_n 0, 1) := by decide +kernel
theorem dX7_thief_35 : decode cX7_thief 35 = .ok (.iload_n 1, 1) := by decide +kernel
theorem dX7_thief_36 : decode cX7_thief 36 = .ok (.putfield 56, 3) := by decide +kernel
theorem dX7_thief_39 : decode cX7_thief 39 = .ok (.aload_n 0, 1) := by decide +kernel
theorem dX7_thief_40 : decode cX7_thief 40 = .ok (.iload_n 2, 1) := by decide +kernel
theorem dX7_thief_41 : decode cX7_thief 41 = .ok (.putfield 179, 3) := by decide +kernel
theorem dX7_thief_44 : decode cX7_thief 44 = .ok (.aload_n 0, 1) := by decide +kernel
theorem dX7_thief_45 : decode cX7_thief 45 = .ok (.iconst 0, 1) := by decide +kernel
theorem dX7_thief_46 : decode cX7_thief 46 = .ok (.putfield 176, 3) := by decide +kernel
theorem dX7_thief_49 : decode cX7_thief 49 = .ok (.aload_n 0, 1) := by decide +kernel
theorem dX7_thief_50 : decode cX7_thief 50 = .ok (.getfield 176, 3) := by decide +kernel
theorem dX7_thief_53 : decode cX7_thief 53 = .ok (.aload_n 0, 1) := by decide +kernel
theorem dX7_thief_54 : decode cX7_thief 54 = .ok (.getfield 78, 3) := by decide +kernel
theorem dX7_thief_57 : decode cX7_thief 57 = .ok (.if_icmp .ge 47, 3) := by decide +kernel
theorem dX7_thief_60 : decode cX7_thief 60 = .ok (.aload_n 0, 1) := by decide +kernel
theorem dX7_thief_61 : decode cX7_thief 61 = .ok (.invokevirtual 209, 3) := by decide +kernel
theorem dX7_thief_64 : decode cX7_thief 64 = .ok (.istore 4, 2) := by decide +kernel
theorem dX7_thief_66 : decode cX7_thief 66 = .ok (.iload_n 3, 1) := by decide +kernel
theorem dX7_thief_67 : decode cX7_thief 67 = .ok (.iload 4, 2) := by decide +kernel
theorem dX7_thief_69 : decode cX7_thief 69 = .ok (.ifCond .eq 19, 3) := by decide +kernel
theorem dX7_thief_72 : decode cX7_thief 72 = .ok (.aload_n 0, 1) := by decide +kernel
theorem dX7_thief_73 : decode cX7_thief 73 = .ok (.getfield 182, 3) := by decide +kernel
theorem dX7_thief_76 : decode cX7_thief 76 = .ok (.ifCond .eq 12, 3) := by decide +kernel
theorem dX7_thief_79 : decode cX7_thief 79 = .ok (.iconst 1, 1) := by decide +kernel
theorem dX7_thief_80 : decode cX7_thief 80 = .ok (.aload_n 0, 1) := by decide +kernel
theorem dX7_thief_81 : decode cX7_thief 81 = .ok (.getfield 176, 3) := by decide +kernel
theorem dX7_thief_84 : decode cX7_thief 84 = .ok (.ishl, 1) := by decide +kernel
theorem dX7_thief_85 : decode cX7_thief 85 = .ok (.goto 4, 3) := by decide +kernel
theorem dX7_thief_88 : decode cX7_thief 88 = .ok (.iconst 0, 1) := by decide +kernel
theorem dX7_thief_89 : decode cX7_thief 89 = .ok (.ior, 1) := by decide +kernel
theorem dX7_thief_90 : decode cX7_thief 90 = .ok (.istore_n 3, 1) := by decide +kernel
theorem dX7_thief_91 : decode cX7_thief 91 = .ok (.aload_n 0, 1) := by decide +kernel
theorem dX7_thief_92 : decode cX7_thief 92 = .ok (.dup, 1) := by decide +kernel
theorem dX7_thief_93 : decode cX7_thief 93 = .ok (.getfield 176, 3) := by decide +kernel
theorem dX7_thief_96 : decode cX7_thief 96 = .ok (.iconst 1, 1) := by decide +kernel
theorem dX7_thief_97 : decode cX7_thief 97 = .ok (.iadd, 1) := by decide +kernel
theorem dX7_thief_98 : decode cX7_thief 98 = .ok (.putfield 176, 3) := by decide +kernel
theorem dX7_thief_101 : decode cX7_thief 101 = .ok (.goto (-52), 3) := by decide +kernel
theorem dX7_thief_104 : decode cX7_thief 104 = .ok (.aload_n 0, 1) := by decide +kernel
theorem dX7_thief_105 : decode cX7_thief 105 = .ok (.bipush (-9), 2) := by decide +kernel
theorem dX7_thief_107 : decode cX7_thief 107 = .ok (.putfield 56, 3) := by decide +kernel
theorem dX7_thief_110 : decode cX7_thief 110 = .ok (.iload_n 3, 1) := by decide +kernel
theorem dX7_thief_111 : decode cX7_thief 111 = .ok (.ireturn, 1) := by decide +kernel
theorem dX7_sheet_0 : decode cX7_sheet 0 = .ok (.aload_n 0, 1) := by decide +kernel
theorem dX7_sheet_1 : decode cX7_sheet 1 = .ok (.iconst 0, 1) := by decide +kernel
theorem dX7_sheet_2 : decode cX7_sheet 2 = .ok (.putfield 69, 3) := by decide +kernel
theorem dX7_sheet_5 : decode cX7_sheet 5 = .ok (.iload_n 1, 1) := by decide +kernel
theorem dX7_sheet_6 : decode cX7_sheet 6 = .ok (.invokestatic 81, 3) := by decide +kernel
theorem dX7_sheet_9 : decode cX7_sheet 9 = .ok (.ifCond .ne 5, 3) := by decide +kernel
theorem dX7_sheet_12 : decode cX7_sheet 12 = .ok (.iconst (-1), 1) := by decide +kernel
theorem dX7_sheet_13 : decode cX7_sheet 13 = .ok (.ireturn, 1) := by decide +kernel
theorem dX7_sheet_14 : decode cX7_sheet 14 = .ok (.iload_n 2, 1) := by decide +kernel
theorem dX7_sheet_15 : decode cX7_sheet 15 = .ok (.invokestatic 85, 3) := by decide +kernel
theorem dX7_sheet_18 : decode cX7_sheet 18 = .ok (.ifCond .eq 9, 3) := by decide +kernel
theorem dX7_sheet_21 : decode cX7_sheet 21 = .ok (.iload_n 3, 1) := by decide +kernel
theorem dX7_sheet_22 : decode cX7_sheet 22 = .ok (.bipush 60, 2) := by decide +kernel
theorem dX7_sheet_24 : decode cX7_sheet 24 = .ok (.if_icmp .le 6, 3) := by decide +kernel
theorem dX7_sheet_27 : decode cX7_sheet 27 = .ok (.bipush (-2), 2) := by decide +kernel
theorem dX7_sheet_29 : decode cX7_sheet 29 = .ok (.ireturn, 1) := by decide +kernel
theorem dX7_sheet_30 : decode cX7_sheet 30 = .ok (.iload_n 3, 1) := by decide +kernel
theorem dX7_sheet_31 : decode cX7_sheet 31 = .ok (.ifCond .ge 9, 3) := by decide +kernel
theorem dX7_sheet_34 : decode cX7_sheet 34 = .ok (.aload_n 0, 1) := by decide +kernel
theorem dX7_sheet_35 : decode cX7_sheet 35 = .ok (.iconst 4, 1) := by decide +kernel
theorem dX7_sheet_36 : decode cX7_sheet 36 = .ok (.invokevirtual 92, 3) := by decide +kernel
theorem dX7_sheet_39 : decode cX7_sheet 39 = .ok (.ireturn, 1) := by decide +kernel
theorem dX7_sheet_40 : decode cX7_sheet 40 = .ok (.aload_n 0, 1) := by decide +kernel
theorem dX7_sheet_41 : decode cX7_sheet 41 = .ok (.getfield 9, 3) := by decide +kernel
theorem dX7_sheet_44 : decode cX7_sheet 44 = .ok (.iload_n 1, 1) := by decide +kernel
theorem dX7_sheet_45 : decode cX7_sheet 45 = .ok (.iload_n 2, 1) := by decide +kernel
theorem dX7_sheet_46 : decode cX7_sheet 46 = .ok (.iastore, 1) := by decide +kernel
theorem dX7_sheet_47 : decode cX7_sheet 47 = .ok (.aload_n 0, 1) := by decide +kernel
theorem dX7_sheet_48 : decode cX7_sheet 48 = .ok (.getfield 13, 3) := by decide +kernel
theorem dX7_sheet_51 : decode cX7_sheet 51 = .ok (.iload_n 1, 1) := by decide +kernel
theorem dX7_sheet_52 : decode cX7_sheet 52 = .ok (.iload_n 3, 1) := by decide +kernel
theorem dX7_sheet_53 : decode cX7_sheet 53 = .ok (.iastore, 1) := by decide +kernel
theorem dX7_sheet_54 : decode cX7_sheet 54 = .ok (.iconst 0, 1) := by decide +kernel
theorem dX7_sheet_55 : decode cX7_sheet 55 = .ok (.istore 4, 2) := by decide +kernel
theorem dX7_sheet_57 : decode cX7_sheet 57 = .ok (.iload 4, 2) := by decide +kernel
theorem dX7_sheet_59 : decode cX7_sheet 59 = .ok (.bipush 60, 2) := by decide +kernel
theorem dX7_sheet_61 : decode cX7_sheet 61 = .ok (.if_icmp .ge 22, 3) := by decide +kernel
theorem dX7_sheet_64 : decode cX7_sheet 64 = .ok (.aload_n 0, 1) := by decide +kernel
theorem dX7_sheet_65 : decode cX7_sheet 65 = .ok (.getfield 16, 3) := by decide +kernel
theorem dX7_sheet_68 : decode cX7_sheet 68 = .ok (.bipush 60, 2) := by decide +kernel
theorem dX7_sheet_70 : decode cX7_sheet 70 = .ok (.iload_n 1, 1) := by decide +kernel
theorem dX7_sheet_71 : decode cX7_sheet 71 = .ok (.imul, 1) := by decide +kernel
theorem dX7_sheet_72 : decode cX7_sheet 72 = .ok (.iload 4, 2) := by decide +kernel
theorem dX7_sheet_74 : decode cX7_sheet 74 = .ok (.iadd, 1) := by decide +kernel
theorem dX7_sheet_75 : decode cX7_sheet 75 = .ok (.iconst 0, 1) := by decide +kernel
theorem dX7_sheet_76 : decode cX7_sheet 76 = .ok (.iastore, 1) := by decide +kernel
theorem dX7_sheet_77 : decode cX7_sheet 77 = .ok (.iinc 4 1, 3) := by decide +kernel
theorem dX7_sheet_80 : decode cX7_sheet 80 = .ok (.goto (-23), 3) := by decide +kernel
theorem dX7_sheet_83 : decode cX7_sheet 83 = .ok (.iconst 1, 1) := by decide +kernel
theorem dX7_sheet_84 : decode cX7_sheet 84 = .ok (.ireturn, 1) := by decide +kernel
theorem dX7_lose_0 : decode cX7_lose 0 = .ok (.iload_n 1, 1) := by decide +kernel
theorem dX7_lose_1 : decode cX7_lose 1 = .ok (.invokestatic 81, 3) := by decide +kernel
theorem dX7_lose_4 : decode cX7_lose 4 = .ok (.ifCond .ne 5, 3) := by decide +kernel
theorem dX7_lose_7 : decode cX7_lose 7 = .ok (.iconst (-1), 1) := by decide +kernel
theorem dX7_lose_8 : decode cX7_lose 8 = .ok (.ireturn, 1) := by decide +kernel
theorem dX7_lose_9 : decode cX7_lose 9 = .ok (.aload_n 0, 1) := by decide +kernel
theorem dX7_lose_10 : decode cX7_lose 10 = .ok (.getfield 9, 3) := by decide +kernel
theorem dX7_lose_13 : decode cX7_lose 13 = .ok (.iload_n 1, 1) := by decide +kernel
theorem dX7_lose_14 : decode cX7_lose 14 = .ok (.iaload, 1) := by decide +kernel
theorem dX7_lose_15 : decode cX7_lose 15 = .ok (.bipush (-9), 2) := by decide +kernel
theorem dX7_lose_17 : decode cX7_lose 17 = .ok (.if_icmp .ne 7, 3) := by decide +kernel
theorem dX7_lose_20 : decode cX7_lose 20 = .ok (.iconst 0, 1) := by decide +kernel
theorem dX7_lose_21 : decode cX7_lose 21 = .ok (.goto 4, 3) := by decide +kernel
theorem dX7_lose_24 : decode cX7_lose 24 = .ok (.iconst 1, 1) := by decide +kernel
theorem dX7_lose_25 : decode cX7_lose 25 = .ok (.istore_n 2, 1) := by decide +kernel
theorem dX7_lose_26 : decode cX7_lose 26 = .ok (.aload_n 0, 1) := by decide +kernel
theorem dX7_lose_27 : decode cX7_lose 27 = .ok (.getfield 9, 3) := by decide +kernel
theorem dX7_lose_30 : decode cX7_lose 30 = .ok (.iload_n 1, 1) := by decide +kernel
theorem dX7_lose_31 : decode cX7_lose 31 = .ok (.bipush (-9), 2) := by decide +kernel
theorem dX7_lose_33 : decode cX7_lose 33 = .ok (.iastore, 1) := by decide +kernel
theorem dX7_lose_34 : decode cX7_lose 34 = .ok (.iload_n 2, 1) := by decide +kernel
theorem dX7_lose_35 : decode cX7_lose 35 = .ok (.ireturn, 1) := by decide +kernel
theorem dX7_put_0 : decode cX7_put 0 = .ok (.aload_n 0, 1) := by decide +kernel
theorem dX7_put_1 : decode cX7_put 1 = .ok (.iconst 0, 1) := by decide +kernel
theorem dX7_put_2 : decode cX7_put 2 = .ok (.putfield 69, 3) := by decide +kernel
theorem dX7_put_5 : decode cX7_put 5 = .ok (.iload_n 1, 1) := by decide +kernel
theorem dX7_put_6 : decode cX7_put 6 = .ok (.invokestatic 81, 3) := by decide +kernel
theorem dX7_put_9 : decode cX7_put 9 = .ok (.ifCond .ne 5, 3) := by decide +kernel
theorem dX7_put_12 : decode cX7_put 12 = .ok (.iconst (-1), 1) := by decide +kernel
theorem dX7_put_13 : decode cX7_put 13 = .ok (.ireturn, 1) := by decide +kernel
theorem dX7_put_14 : decode cX7_put 14 = .ok (.aload_n 0, 1) := by decide +kernel
theorem dX7_put_15 : decode cX7_put 15 = .ok (.getfield 9, 3) := by decide +kernel
theorem dX7_put_18 : decode cX7_put 18 = .ok (.iload_n 1, 1) := by decide +kernel
theorem dX7_put_19 : decode cX7_put 19 = .ok (.iaload, 1) := by decide +kernel
theorem dX7_put_20 : decode cX7_put 20 = .ok (.bipush (-9), 2) := by decide +kernel
theorem dX7_put_22 : decode cX7_put 22 = .ok (.if_icmp .ne 9, 3) := by decide +kernel
theorem dX7_put_25 : decode cX7_put 25 = .ok (.aload_n 0, 1) := by decide +kernel
theorem dX7_put_26 : decode cX7_put 26 = .ok (.iconst 1, 1) := by decide +kernel
theorem dX7_put_27 : decode cX7_put 27 = .ok (.invokevirtual 92, 3) := by decide +kernel
theorem dX7_put_30 : decode cX7_put 30 = .ok (.ireturn, 1) := by decide +kernel
theorem dX7_put_31 : decode cX7_put 31 = .ok (.iload_n 2, 1) := by decide +kernel
theorem dX7_put_32 : decode cX7_put 32 = .ok (.iconst 0, 1) := by decide +kernel
theorem dX7_put_33 : decode cX7_put 33 = .ok (.aload_n 0, 1) := by decide +kernel
theorem dX7_put_34 : decode cX7_put 34 = .ok (.getfield 13, 3) := by decide +kernel
theorem dX7_put_37 : decode cX7_put 37 = .ok (.iload_n 1, 1) := by decide +kernel
theorem dX7_put_38 : decode cX7_put 38 = .ok (.iaload, 1) := by decide +kernel
theorem dX7_put_39 : decode cX7_put 39 = .ok (.iconst 1, 1) := by decide +kernel
theorem dX7_put_40 : decode cX7_put 40 = .ok (.isub, 1) := by decide +kernel
theorem dX7_put_41 : decode cX7_put 41 = .ok (.invokestatic 74, 3) := by decide +kernel
theorem dX7_put_44 : decode cX7_put 44 = .ok (.ifCond .ne 9, 3) := by decide +kernel
theorem dX7_put_47 : decode cX7_put 47 = .ok (.aload_n 0, 1) := by decide +kernel
theorem dX7_put_48 : decode cX7_put 48 = .ok (.iconst 3, 1) := by decide +kernel
theorem dX7_put_49 : decode cX7_put 49 = .ok (.invokevirtual 92, 3) := by decide +kernel
theorem dX7_put_52 : decode cX7_put 52 = .ok (.ireturn, 1) := by decide +kernel
theorem dX7_put_53 : decode cX7_put 53 = .ok (.aload_n 0, 1) := by decide +kernel
theorem dX7_put_54 : decode cX7_put 54 = .ok (.getfield 16, 3) := by decide +kernel
theorem dX7_put_57 : decode cX7_put 57 = .ok (.bipush 60, 2) := by decide +kernel
theorem dX7_put_59 : decode cX7_put 59 = .ok (.iload_n 1, 1) := by decide +kernel
theorem dX7_put_60 : decode cX7_put 60 = .ok (.imul, 1) := by decide +kernel
theorem dX7_put_61 : decode cX7_put 61 = .ok (.iload_n 2, 1) := by decide +kernel
theorem dX7_put_62 : decode cX7_put 62 = .ok (.iadd, 1) := by decide +kernel
theorem dX7_put_63 : decode cX7_put 63 = .ok (.aload_n 0, 1) := by decide +kernel
theorem dX7_put_64 : decode cX7_put 64 = .ok (.getfield 9, 3) := by decide +kernel
theorem dX7_put_67 : decode cX7_put 67 = .ok (.iload_n 1, 1) := by decide +kernel
theorem dX7_put_68 : decode cX7_put 68 = .ok (.iaload, 1) := by decide +kernel
theorem dX7_put_69 : decode cX7_put 69 = .ok (.ifCond .ne 8, 3) := by decide +kernel
theorem dX7_put_72 : decode cX7_put 72 = .ok (.iload_n 3, 1) := by decide +kernel
theorem dX7_put_73 : decode cX7_put 73 = .ok (.i2b, 1) := by decide +kernel
theorem dX7_put_74 : decode cX7_put 74 = .ok (.goto 19, 3) := by decide +kernel
theorem dX7_put_77 : decode cX7_put 77 = .ok (.aload_n 0, 1) := by decide +kernel
theorem dX7_put_78 : decode cX7_put 78 = .ok (.getfield 9, 3) := by decide +kernel
theorem dX7_put_81 : decode cX7_put 81 = .ok (.iload_n 1, 1) := by decide +kernel
theorem dX7_put_82 : decode cX7_put 82 = .ok (.iaload, 1) := by decide +kernel
theorem dX7_put_83 : decode cX7_put 83 = .ok (.iconst 1, 1) := by decide +kernel
theorem dX7_put_84 : decode cX7_put 84 = .ok (.if_icmp .ne 8, 3) := by decide +kernel
theorem dX7_put_87 : decode cX7_put 87 = .ok (.iload_n 3, 1) := by decide +kernel
theorem dX7_put_88 : decode cX7_put 88 = .ok (.i2s, 1) := by decide +kernel
theorem dX7_put_89 : decode cX7_put 89 = .ok (.goto 4, 3) := by decide +kernel
theorem dX7_put_92 : decode cX7_put 92 = .ok (.iload_n 3, 1) := by decide +kernel
theorem dX7_put_93 : decode cX7_put 93 = .ok (.iastore, 1) := by decide +kernel
theorem dX7_put_94 : decode cX7_put 94 = .ok (.iconst 1, 1) := by decide +kernel
theorem dX7_put_95 : decode cX7_put 95 = .ok (.ireturn, 1) := by decide +kernel
theorem dX7_cell_0 : decode cX7_cell 0 = .ok (.aload_n 0, 1) := by decide +kernel
theorem dX7_cell_1 : decode cX7_cell 1 = .ok (.iconst 0, 1) := by decide +kernel
theorem dX7_cell_2 : decode cX7_cell 2 = .ok (.putfield 69, 3) := by decide +kernel
theorem dX7_cell_5 : decode cX7_cell 5 = .ok (.iload_n 1, 1) := by decide +kernel
theorem dX7_cell_6 : decode cX7_cell 6 = .ok (.invokestatic 81, 3) := by decide +kernel
theorem dX7_cell_9 : decode cX7_cell 9 = .ok (.ifCond .eq 10, 3) := by decide +kernel
theorem dX7_cell_12 : decode cX7_cell 12 = .ok (.iload_n 3, 1) := by decide +kernel
theorem dX7_cell_13 : decode cX7_cell 13 = .ok (.invokestatic 85, 3) := by decide +kernel
theorem dX7_cell_16 : decode cX7_cell 16 = .ok (.ifCond .ne 7, 3) := by decide +kernel
theorem dX7_cell_19 : decode cX7_cell 19 = .ok (.ldc2_w 72, 3) := by decide +kernel
theorem dX7_cell_22 : decode cX7_cell 22 = .ok (.lreturn, 1) := by decide +kernel
theorem dX7_cell_23 : decode cX7_cell 23 = .ok (.aload_n 0, 1) := by decide +kernel
theorem dX7_cell_24 : decode cX7_cell 24 = .ok (.getfield 9, 3) := by decide +kernel
theorem dX7_cell_27 : decode cX7_cell 27 = .ok (.iload_n 1, 1) := by decide +kernel
theorem dX7_cell_28 : decode cX7_cell 28 = .ok (.iaload, 1) := by decide +kernel
theorem dX7_cell_29 : decode cX7_cell 29 = .ok (.bipush (-9), 2) := by decide +kernel
theorem dX7_cell_31 : decode cX7_cell 31 = .ok (.if_icmp .eq 19, 3) := by decide +kernel
theorem dX7_cell_34 : decode cX7_cell 34 = .ok (.aload_n 0, 1) := by decide +kernel
theorem dX7_cell_35 : decode cX7_cell 35 = .ok (.getfield 9, 3) := by decide +kernel
theorem dX7_cell_38 : decode cX7_cell 38 = .ok (.iload_n 1, 1) := by decide +kernel
theorem dX7_cell_39 : decode cX7_cell 39 = .ok (.iaload, 1) := by decide +kernel
theorem dX7_cell_40 : decode cX7_cell 40 = .ok (.iload_n 3, 1) := by decide +kernel
theorem dX7_cell_41 : decode cX7_cell 41 = .ok (.if_icmp .eq 9, 3) := by decide +kernel
theorem dX7_cell_44 : decode cX7_cell 44 = .ok (.aload_n 0, 1) := by decide +kernel
theorem dX7_cell_45 : decode cX7_cell 45 = .ok (.iconst 2, 1) := by decide +kernel
theorem dX7_cell_46 : decode cX7_cell 46 = .ok (.invokevirtual 213, 3) := by decide +kernel
theorem dX7_cell_49 : decode cX7_cell 49 = .ok (.lreturn, 1) := by decide +kernel
theorem dX7_cell_50 : decode cX7_cell 50 = .ok (.aload_n 0, 1) := by decide +kernel
theorem dX7_cell_51 : decode cX7_cell 51 = .ok (.getfield 9, 3) := by decide +kernel
theorem dX7_cell_54 : decode cX7_cell 54 = .ok (.iload_n 1, 1) := by decide +kernel
theorem dX7_cell_55 : decode cX7_cell 55 = .ok (.iaload, 1) := by decide +kernel
theorem dX7_cell_56 : decode cX7_cell 56 = .ok (.bipush (-9), 2) := by decide +kernel
theorem dX7_cell_58 : decode cX7_cell 58 = .ok (.if_icmp .ne 9, 3) := by decide +kernel
theorem dX7_cell_61 : decode cX7_cell 61 = .ok (.aload_n 0, 1) := by decide +kernel
theorem dX7_cell_62 : decode cX7_cell 62 = .ok (.iconst 1, 1) := by decide +kernel
theorem dX7_cell_63 : decode cX7_cell 63 = .ok (.invokevirtual 213, 3) := by decide +kernel
theorem dX7_cell_66 : decode cX7_cell 66 = .ok (.lreturn, 1) := by decide +kernel
theorem dX7_cell_67 : decode cX7_cell 67 = .ok (.iload_n 2, 1) := by decide +kernel
theorem dX7_cell_68 : decode cX7_cell 68 = .ok (.iconst 0, 1) := by decide +kernel
theorem dX7_cell_69 : decode cX7_cell 69 = .ok (.aload_n 0, 1) := by decide +kernel
theorem dX7_cell_70 : decode cX7_cell 70 = .ok (.getfield 13, 3) := by decide +kernel
theorem dX7_cell_73 : decode cX7_cell 73 = .ok (.iload_n 1, 1) := by decide +kernel
theorem dX7_cell_74 : decode cX7_cell 74 = .ok (.iaload, 1) := by decide +kernel
theorem dX7_cell_75 : decode cX7_cell 75 = .ok (.iconst 1, 1) := by decide +kernel
theorem dX7_cell_76 : decode cX7_cell 76 = .ok (.isub, 1) := by decide +kernel
theorem dX7_cell_77 : decode cX7_cell 77 = .ok (.invokestatic 74, 3) := by decide +kernel
theorem dX7_cell_80 : decode cX7_cell 80 = .ok (.ifCond .ne 9, 3) := by decide +kernel
theorem dX7_cell_83 : decode cX7_cell 83 = .ok (.aload_n 0, 1) := by decide +kernel
theorem dX7_cell_84 : decode cX7_cell 84 = .ok (.iconst 3, 1) := by decide +kernel
theorem dX7_cell_85 : decode cX7_cell 85 = .ok (.invokevirtual 213, 3) := by decide +kernel
theorem dX7_cell_88 : decode cX7_cell 88 = .ok (.lreturn, 1) := by decide +kernel
theorem dX7_cell_89 : decode cX7_cell 89 = .ok (.aload_n 0, 1) := by decide +kernel
theorem dX7_cell_90 : decode cX7_cell 90 = .ok (.getfield 16, 3) := by decide +kernel
theorem dX7_cell_93 : decode cX7_cell 93 = .ok (.bipush 60, 2) := by decide +kernel
theorem dX7_cell_95 : decode cX7_cell 95 = .ok (.iload_n 1, 1) := by decide +kernel
theorem dX7_cell_96 : decode cX7_cell 96 = .ok (.imul, 1) := by decide +kernel
theorem dX7_cell_97 : decode cX7_cell 97 = .ok (.iload_n 2, 1) := by decide +kernel
theorem dX7_cell_98 : decode cX7_cell 98 = .ok (.iadd, 1) := by decide +kernel
theorem dX7_cell_99 : decode cX7_cell 99 = .ok (.iaload, 1) := by decide +kernel
theorem dX7_cell_100 : decode cX7_cell 100 = .ok (.i2l, 1) := by decide +kernel
theorem dX7_cell_101 : decode cX7_cell 101 = .ok (.lreturn, 1) := by decide +kernel
theorem dX7_copy_0 : decode cX7_copy 0 = .ok (.aload_n 0, 1) := by decide +kernel
theorem dX7_copy_1 : decode cX7_copy 1 = .ok (.iconst 0, 1) := by decide +kernel
theorem dX7_copy_2 : decode cX7_copy 2 = .ok (.putfield 69, 3) := by decide +kernel
theorem dX7_copy_5 : decode cX7_copy 5 = .ok (.iload_n 1, 1) := by decide +kernel
theorem dX7_copy_6 : decode cX7_copy 6 = .ok (.invokestatic 81, 3) := by decide +kernel
theorem dX7_copy_9 : decode cX7_copy 9 = .ok (.ifCond .eq 10, 3) := by decide +kernel
theorem dX7_copy_12 : decode cX7_copy 12 = .ok (.iload_n 3, 1) := by decide +kernel
theorem dX7_copy_13 : decode cX7_copy 13 = .ok (.invokestatic 81, 3) := by decide +kernel
theorem dX7_copy_16 : decode cX7_copy 16 = .ok (.ifCond .ne 5, 3) := by decide +kernel
theorem dX7_copy_19 : decode cX7_copy 19 = .ok (.iconst (-1), 1) := by decide +kernel
theorem dX7_copy_20 : decode cX7_copy 20 = .ok (.ireturn, 1) := by decide +kernel
theorem dX7_copy_21 : decode cX7_copy 21 = .ok (.aload_n 0, 1) := by decide +kernel
theorem dX7_copy_22 : decode cX7_copy 22 = .ok (.getfield 9, 3) := by decide +kernel
theorem dX7_copy_25 : decode cX7_copy 25 = .ok (.iload_n 1, 1) := by decide +kernel
theorem dX7_copy_26 : decode cX7_copy 26 = .ok (.iaload, 1) := by decide +kernel
theorem dX7_copy_27 : decode cX7_copy 27 = .ok (.bipush (-9), 2) := by decide +kernel
theorem dX7_copy_29 : decode cX7_copy 29 = .ok (.if_icmp .eq 14, 3) := by decide +kernel
theorem dX7_copy_32 : decode cX7_copy 32 = .ok (.aload_n 0, 1) := by decide +kernel
theorem dX7_copy_33 : decode cX7_copy 33 = .ok (.getfield 9, 3) := by decide +kernel
theorem dX7_copy_36 : decode cX7_copy 36 = .ok (.iload_n 3, 1) := by decide +kernel
theorem dX7_copy_37 : decode cX7_copy 37 = .ok (.iaload, 1) := by decide +kernel
theorem dX7_copy_38 : decode cX7_copy 38 = .ok (.bipush (-9), 2) := by decide +kernel
theorem dX7_copy_40 : decode cX7_copy 40 = .ok (.if_icmp .ne 9, 3) := by decide +kernel
theorem dX7_copy_43 : decode cX7_copy 43 = .ok (.aload_n 0, 1) := by decide +kernel
theorem dX7_copy_44 : decode cX7_copy 44 = .ok (.iconst 1, 1) := by decide +kernel
theorem dX7_copy_45 : decode cX7_copy 45 = .ok (.invokevirtual 92, 3) := by decide +kernel
theorem dX7_copy_48 : decode cX7_copy 48 = .ok (.ireturn, 1) := by decide +kernel
theorem dX7_copy_49 : decode cX7_copy 49 = .ok (.aload_n 0, 1) := by decide +kernel
theorem dX7_copy_50 : decode cX7_copy 50 = .ok (.getfield 9, 3) := by decide +kernel
theorem dX7_copy_53 : decode cX7_copy 53 = .ok (.iload_n 1, 1) := by decide +kernel
theorem dX7_copy_54 : decode cX7_copy 54 = .ok (.iaload, 1) := by decide +kernel
theorem dX7_copy_55 : decode cX7_copy 55 = .ok (.aload_n 0, 1) := by decide +kernel
theorem dX7_copy_56 : decode cX7_copy 56 = .ok (.getfield 9, 3) := by decide +kernel
theorem dX7_copy_59 : decode cX7_copy 59 = .ok (.iload_n 3, 1) := by decide +kernel
theorem dX7_copy_60 : decode cX7_copy 60 = .ok (.iaload, 1) := by decide +kernel
theorem dX7_copy_61 : decode cX7_copy 61 = .ok (.if_icmp .eq 9, 3) := by decide +kernel
theorem dX7_copy_64 : decode cX7_copy 64 = .ok (.aload_n 0, 1) := by decide +kernel
theorem dX7_copy_65 : decode cX7_copy 65 = .ok (.iconst 2, 1) := by decide +kernel
theorem dX7_copy_66 : decode cX7_copy 66 = .ok (.invokevirtual 92, 3) := by decide +kernel
theorem dX7_copy_69 : decode cX7_copy 69 = .ok (.ireturn, 1) := by decide +kernel
theorem dX7_copy_70 : decode cX7_copy 70 = .ok (.iload_n 2, 1) := by decide +kernel
theorem dX7_copy_71 : decode cX7_copy 71 = .ok (.ifCond .lt 38, 3) := by decide +kernel
theorem dX7_copy_74 : decode cX7_copy 74 = .ok (.iload 4, 2) := by decide +kernel
theorem dX7_copy_76 : decode cX7_copy 76 = .ok (.ifCond .lt 33, 3) := by decide +kernel
theorem dX7_copy_79 : decode cX7_copy 79 = .ok (.iload 5, 2) := by decide +kernel
theorem dX7_copy_81 : decode cX7_copy 81 = .ok (.ifCond .lt 28, 3) := by decide +kernel
theorem dX7_copy_84 : decode cX7_copy 84 = .ok (.iload_n 2, 1) := by decide +kernel
theorem dX7_copy_85 : decode cX7_copy 85 = .ok (.aload_n 0, 1) := by decide +kernel
theorem dX7_copy_86 : decode cX7_copy 86 = .ok (.getfield 13, 3) := by decide +kernel
theorem dX7_copy_89 : decode cX7_copy 89 = .ok (.iload_n 1, 1) := by decide +kernel
theorem dX7_copy_90 : decode cX7_copy 90 = .ok (.iaload, 1) := by decide +kernel
theorem dX7_copy_91 : decode cX7_copy 91 = .ok (.if_icmp .gt 18, 3) := by decide +kernel
theorem dX7_copy_94 : decode cX7_copy 94 = .ok (.iload 4, 2) := by decide +kernel
theorem dX7_copy_96 : decode cX7_copy 96 = .ok (.aload_n 0, 1) := by decide +kernel
theorem dX7_copy_97 : decode cX7_copy 97 = .ok (.getfield 13, 3) := by decide +kernel
theorem dX7_copy_100 : decode cX7_copy 100 = .ok (.iload_n 3, 1) := by decide +kernel
theorem dX7_copy_101 : decode cX7_copy 101 = .ok (.iaload, 1) := by decide +kernel
theorem dX7_copy_102 : decode cX7_copy 102 = .ok (.if_icmp .gt 7, 3) := by decide +kernel
theorem dX7_copy_105 : decode cX7_copy 105 = .ok (.iconst 1, 1) := by decide +kernel
theorem dX7_copy_106 : decode cX7_copy 106 = .ok (.goto 4, 3) := by decide +kernel
theorem dX7_copy_109 : decode cX7_copy 109 = .ok (.iconst 0, 1) := by decide +kernel
theorem dX7_copy_110 : decode cX7_copy 110 = .ok (.istore 6, 2) := by decide +kernel
theorem dX7_copy_112 : decode cX7_copy 112 = .ok (.iload 6, 2) := by decide +kernel
theorem dX7_copy_114 : decode cX7_copy 114 = .ok (.ifCond .eq 30, 3) := by decide +kernel
theorem dX7_copy_117 : decode cX7_copy 117 = .ok (.iload 5, 2) := by decide +kernel
theorem dX7_copy_119 : decode cX7_copy 119 = .ok (.aload_n 0, 1) := by decide +kernel
theorem dX7_copy_120 : decode cX7_copy 120 = .ok (.getfield 13, 3) := by decide +kernel
theorem dX7_copy_123 : decode cX7_copy 123 = .ok (.iload_n 1, 1) := by decide +kernel
theorem dX7_copy_124 : decode cX7_copy 124 = .ok (.iaload, 1) := by decide +kernel
theorem dX7_copy_125 : decode cX7_copy 125 = .ok (.iload_n 2, 1) := by decide +kernel
theorem dX7_copy_126 : decode cX7_copy 126 = .ok (.isub, 1) := by decide +kernel
theorem dX7_copy_127 : decode cX7_copy 127 = .ok (.if_icmp .gt 17, 3) := by decide +kernel
theorem dX7_copy_130 : decode cX7_copy 130 = .ok (.iload 5, 2) := by decide +kernel
theorem dX7_copy_132 : decode cX7_copy 132 = .ok (.aload_n 0, 1) := by decide +kernel
theorem dX7_copy_133 : decode cX7_copy 133 = .ok (.getfield 13, 3) := by decide +kernel
theorem dX7_copy_136 : decode cX7_copy 136 = .ok (.iload_n 3, 1) := by decide +kernel
theorem dX7_copy_137 : decode cX7_copy 137 = .ok (.iaload, 1) := by decide +kernel
theorem dX7_copy_138 : decode cX7_copy 138 = .ok (.iload 4, 2) := by decide +kernel
theorem dX7_copy_140 : decode cX7_copy 140 = .ok (.isub, 1) := by decide +kernel
theorem dX7_copy_141 : decode cX7_copy 141 = .ok (.if_icmp .le 9, 3) := by decide +kernel
theorem dX7_copy_144 : decode cX7_copy 144 = .ok (.aload_n 0, 1) := by decide +kernel
theorem dX7_copy_145 : decode cX7_copy 145 = .ok (.iconst 3, 1) := by decide +kernel
theorem dX7_copy_146 : decode cX7_copy 146 = .ok (.invokevirtual 92, 3) := by decide +kernel
theorem dX7_copy_149 : decode cX7_copy 149 = .ok (.ireturn, 1) := by decide +kernel
theorem dX7_copy_150 : decode cX7_copy 150 = .ok (.iload_n 2, 1) := by decide +kernel
theorem dX7_copy_151 : decode cX7_copy 151 = .ok (.iload 4, 2) := by decide +kernel
theorem dX7_copy_153 : decode cX7_copy 153 = .ok (.if_icmp .ge 7, 3) := by decide +kernel
theorem dX7_copy_156 : decode cX7_copy 156 = .ok (.iconst 1, 1) := by decide +kernel
theorem dX7_copy_157 : decode cX7_copy 157 = .ok (.goto 4, 3) := by decide +kernel
theorem dX7_copy_160 : decode cX7_copy 160 = .ok (.iconst 0, 1) := by decide +kernel
theorem dX7_copy_161 : decode cX7_copy 161 = .ok (.istore 7, 2) := by decide +kernel
theorem dX7_copy_163 : decode cX7_copy 163 = .ok (.iconst 0, 1) := by decide +kernel
theorem dX7_copy_164 : decode cX7_copy 164 = .ok (.istore 8, 2) := by decide +kernel
theorem dX7_copy_166 : decode cX7_copy 166 = .ok (.iload 8, 2) := by decide +kernel
theorem dX7_copy_168 : decode cX7_copy 168 = .ok (.iload 5, 2) := by decide +kernel
theorem dX7_copy_170 : decode cX7_copy 170 = .ok (.if_icmp .ge 57, 3) := by decide +kernel
theorem dX7_copy_173 : decode cX7_copy 173 = .ok (.iload 7, 2) := by decide +kernel
theorem dX7_copy_175 : decode cX7_copy 175 = .ok (.ifCond .eq 13, 3) := by decide +kernel
theorem dX7_copy_178 : decode cX7_copy 178 = .ok (.iload 5, 2) := by decide +kernel
theorem dX7_copy_180 : decode cX7_copy 180 = .ok (.iconst 1, 1) := by decide +kernel
theorem dX7_copy_181 : decode cX7_copy 181 = .ok (.isub, 1) := by decide +kernel
theorem dX7_copy_182 : decode cX7_copy 182 = .ok (.iload 8, 2) := by decide +kernel
theorem dX7_copy_184 : decode cX7_copy 184 = .ok (.isub, 1) := by decide +kernel
theorem dX7_copy_185 : decode cX7_copy 185 = .ok (.goto 5, 3) := by decide +kernel
theorem dX7_copy_188 : decode cX7_copy 188 = .ok (.iload 8, 2) := by decide +kernel
theorem dX7_copy_190 : decode cX7_copy 190 = .ok (.istore 9, 2) := by decide +kernel
theorem dX7_copy_192 : decode cX7_copy 192 = .ok (.aload_n 0, 1) := by decide +kernel
theorem dX7_copy_193 : decode cX7_copy 193 = .ok (.getfield 16, 3) := by decide +kernel
theorem dX7_copy_196 : decode cX7_copy 196 = .ok (.bipush 60, 2) := by decide +kernel
theorem dX7_copy_198 : decode cX7_copy 198 = .ok (.iload_n 3, 1) := by decide +kernel
theorem dX7_copy_199 : decode cX7_copy 199 = .ok (.imul, 1) := by decide +kernel
theorem dX7_copy_200 : decode cX7_copy 200 = .ok (.iload 4, 2) := by decide +kernel
theorem dX7_copy_202 : decode cX7_copy 202 = .ok (.iadd, 1) := by decide +kernel
theorem dX7_copy_203 : decode cX7_copy 203 = .ok (.iload 9, 2) := by decide +kernel
theorem dX7_copy_205 : decode cX7_copy 205 = .ok (.iadd, 1) := by decide +kernel
theorem dX7_copy_206 : decode cX7_copy 206 = .ok (.aload_n 0, 1) := by decide +kernel
theorem dX7_copy_207 : decode cX7_copy 207 = .ok (.getfield 16, 3) := by decide +kernel
theorem dX7_copy_210 : decode cX7_copy 210 = .ok (.bipush 60, 2) := by decide +kernel
theorem dX7_copy_212 : decode cX7_copy 212 = .ok (.iload_n 1, 1) := by decide +kernel
theorem dX7_copy_213 : decode cX7_copy 213 = .ok (.imul, 1) := by decide +kernel
theorem dX7_copy_214 : decode cX7_copy 214 = .ok (.iload_n 2, 1) := by decide +kernel
theorem dX7_copy_215 : decode cX7_copy 215 = .ok (.iadd, 1) := by decide +kernel
theorem dX7_copy_216 : decode cX7_copy 216 = .ok (.iload 9, 2) := by decide +kernel
theorem dX7_copy_218 : decode cX7_copy 218 = .ok (.iadd, 1) := by decide +kernel
theorem dX7_copy_219 : decode cX7_copy 219 = .ok (.iaload, 1) := by decide +kernel
theorem dX7_copy_220 : decode cX7_copy 220 = .ok (.iastore, 1) := by decide +kernel
theorem dX7_copy_221 : decode cX7_copy 221 = .ok (.iinc 8 1, 3) := by decide +kernel
theorem dX7_copy_224 : decode cX7_copy 224 = .ok (.goto (-58), 3) := by decide +kernel
theorem dX7_copy_227 : decode cX7_copy 227 = .ok (.iload 5, 2) := by decide +kernel
theorem dX7_copy_229 : decode cX7_copy 229 = .ok (.ireturn, 1) := by decide +kernel
theorem dX7_begins_0 : decode cX7_begins 0 = .ok (.aload_n 0, 1) := by decide +kernel
theorem dX7_begins_1 : decode cX7_begins 1 = .ok (.bipush 31, 2) := by decide +kernel
theorem dX7_begins_3 : decode cX7_begins 3 = .ok (.aload_n 0, 1) := by decide +kernel
theorem dX7_begins_4 : decode cX7_begins 4 = .ok (.getfield 217, 3) := by decide +kernel
theorem dX7_begins_7 : decode cX7_begins 7 = .ok (.imul, 1) := by decide +kernel
theorem dX7_begins_8 : decode cX7_begins 8 = .ok (.iload_n 1, 1) := by decide +kernel
theorem dX7_begins_9 : decode cX7_begins 9 = .ok (.iadd, 1) := by decide +kernel
theorem dX7_begins_10 : decode cX7_begins 10 = .ok (.putfield 217, 3) := by decide +kernel
theorem dX7_begins_13 : decode cX7_begins 13 = .ok (.return_, 1) := by decide +kernel
theorem dX7_tell_0 : decode cX7_tell 0 = .ok (.aload_n 0, 1) := by decide +kernel
theorem dX7_tell_1 : decode cX7_tell 1 = .ok (.iload_n 1, 1) := by decide +kernel
theorem dX7_tell_2 : decode cX7_tell 2 = .ok (.invokevirtual 139, 3) := by decide +kernel
theorem dX7_tell_5 : decode cX7_tell 5 = .ok (.ifCond .ne 5, 3) := by decide +kernel
theorem dX7_tell_8 : decode cX7_tell 8 = .ok (.iconst (-1), 1) := by decide +kernel
theorem dX7_tell_9 : decode cX7_tell 9 = .ok (.ireturn, 1) := by decide +kernel
theorem dX7_tell_10 : decode cX7_tell 10 = .ok (.aload_n 0, 1) := by decide +kernel
theorem dX7_tell_11 : decode cX7_tell 11 = .ok (.getfield 25, 3) := by decide +kernel
theorem dX7_tell_14 : decode cX7_tell 14 = .ok (.iload_n 1, 1) := by decide +kernel
theorem dX7_tell_15 : decode cX7_tell 15 = .ok (.iaload, 1) := by decide +kernel
theorem dX7_tell_16 : decode cX7_tell 16 = .ok (.istore_n 2, 1) := by decide +kernel
theorem dX7_tell_17 : decode cX7_tell 17 = .ok (.aload_n 0, 1) := by decide +kernel
theorem dX7_tell_18 : decode cX7_tell 18 = .ok (.getfield 19, 3) := by decide +kernel
theorem dX7_tell_21 : decode cX7_tell 21 = .ok (.iload_n 1, 1) := by decide +kernel
theorem dX7_tell_22 : decode cX7_tell 22 = .ok (.iaload, 1) := by decide +kernel
theorem dX7_tell_23 : decode cX7_tell 23 = .ok (.lookupswitch 67 #[(1, 25), (2, 40)], 25) := by decide +kernel
theorem dX7_tell_48 : decode cX7_tell 48 = .ok (.aload_n 0, 1) := by decide +kernel
theorem dX7_tell_49 : decode cX7_tell 49 = .ok (.iconst 2, 1) := by decide +kernel
theorem dX7_tell_50 : decode cX7_tell 50 = .ok (.invokevirtual 220, 3) := by decide +kernel
theorem dX7_tell_53 : decode cX7_tell 53 = .ok (.aload_n 0, 1) := by decide +kernel
theorem dX7_tell_54 : decode cX7_tell 54 = .ok (.iconst 1, 1) := by decide +kernel
theorem dX7_tell_55 : decode cX7_tell 55 = .ok (.invokevirtual 220, 3) := by decide +kernel
theorem dX7_tell_58 : decode cX7_tell 58 = .ok (.iload_n 2, 1) := by decide +kernel
theorem dX7_tell_59 : decode cX7_tell 59 = .ok (.bipush 100, 2) := by decide +kernel
theorem dX7_tell_61 : decode cX7_tell 61 = .ok (.iadd, 1) := by decide +kernel
theorem dX7_tell_62 : decode cX7_tell 62 = .ok (.ireturn, 1) := by decide +kernel
theorem dX7_tell_63 : decode cX7_tell 63 = .ok (.aload_n 0, 1) := by decide +kernel
theorem dX7_tell_64 : decode cX7_tell 64 = .ok (.iconst 3, 1) := by decide +kernel
theorem dX7_tell_65 : decode cX7_tell 65 = .ok (.invokevirtual 220, 3) := by decide +kernel
theorem dX7_tell_68 : decode cX7_tell 68 = .ok (.aload_n 0, 1) := by decide +kernel
theorem dX7_tell_69 : decode cX7_tell 69 = .ok (.iconst 2, 1) := by decide +kernel
theorem dX7_tell_70 : decode cX7_tell 70 = .ok (.invokevirtual 220, 3) := by decide +kernel
theorem dX7_tell_73 : decode cX7_tell 73 = .ok (.aload_n 0, 1) := by decide +kernel
theorem dX7_tell_74 : decode cX7_tell 74 = .ok (.iconst 1, 1) := by decide +kernel
theorem dX7_tell_75 : decode cX7_tell 75 = .ok (.invokevirtual 220, 3) := by decide +kernel
theorem dX7_tell_78 : decode cX7_tell 78 = .ok (.aload_n 0, 1) := by decide +kernel
theorem dX7_tell_79 : decode cX7_tell 79 = .ok (.iconst 1, 1) := by decide +kernel
theorem dX7_tell_80 : decode cX7_tell 80 = .ok (.invokevirtual 220, 3) := by decide +kernel
theorem dX7_tell_83 : decode cX7_tell 83 = .ok (.iconst 2, 1) := by decide +kernel
theorem dX7_tell_84 : decode cX7_tell 84 = .ok (.iload_n 2, 1) := by decide +kernel
theorem dX7_tell_85 : decode cX7_tell 85 = .ok (.imul, 1) := by decide +kernel
theorem dX7_tell_86 : decode cX7_tell 86 = .ok (.bipush 100, 2) := by decide +kernel
theorem dX7_tell_88 : decode cX7_tell 88 = .ok (.iadd, 1) := by decide +kernel
theorem dX7_tell_89 : decode cX7_tell 89 = .ok (.ireturn, 1) := by decide +kernel
theorem dX7_tell_90 : decode cX7_tell 90 = .ok (.aload_n 0, 1) := by decide +kernel
theorem dX7_tell_91 : decode cX7_tell 91 = .ok (.iconst 1, 1) := by decide +kernel
theorem dX7_tell_92 : decode cX7_tell 92 = .ok (.invokevirtual 220, 3) := by decide +kernel
theorem dX7_tell_95 : decode cX7_tell 95 = .ok (.iload_n 2, 1) := by decide +kernel
theorem dX7_tell_96 : decode cX7_tell 96 = .ok (.ireturn, 1) := by decide +kernel
theorem dX7_knock_0 : decode cX7_knock 0 = .ok (.aload_n 0, 1) := by decide +kernel
theorem dX7_knock_1 : decode cX7_knock 1 = .ok (.iload_n 1, 1) := by decide +kernel
theorem dX7_knock_2 : decode cX7_knock 2 = .ok (.invokevirtual 139, 3) := by decide +kernel
theorem dX7_knock_5 : decode cX7_knock 5 = .ok (.ifCond .ne 5, 3) := by decide +kernel
theorem dX7_knock_8 : decode cX7_knock 8 = .ok (.iconst (-1), 1) := by decide +kernel
theorem dX7_knock_9 : decode cX7_knock 9 = .ok (.ireturn, 1) := by decide +kernel
theorem dX7_knock_10 : decode cX7_knock 10 = .ok (.aload_n 0, 1) := by decide +kernel
theorem dX7_knock_11 : decode cX7_knock 11 = .ok (.aload_n 0, 1) := by decide +kernel
theorem dX7_knock_12 : decode cX7_knock 12 = .ok (.getfield 19, 3) := by decide +kernel
theorem dX7_knock_15 : decode cX7_knock 15 = .ok (.iload_n 1, 1) := by decide +kernel
theorem dX7_knock_16 : decode cX7_knock 16 = .ok (.iaload, 1) := by decide +kernel
theorem dX7_knock_17 : decode cX7_knock 17 = .ok (.iconst 2, 1) := by decide +kernel
theorem dX7_knock_18 : decode cX7_knock 18 = .ok (.if_icmp .ne 7, 3) := by decide +kernel
theorem dX7_knock_21 : decode cX7_knock 21 = .ok (.iconst 5, 1) := by decide +kernel
theorem dX7_knock_22 : decode cX7_knock 22 = .ok (.goto 4, 3) := by decide +kernel
theorem dX7_knock_25 : decode cX7_knock 25 = .ok (.iconst 4, 1) := by decide +kernel
theorem dX7_knock_26 : decode cX7_knock 26 = .ok (.invokevirtual 220, 3) := by decide +kernel
theorem dX7_knock_29 : decode cX7_knock 29 = .ok (.aload_n 0, 1) := by decide +kernel
theorem dX7_knock_30 : decode cX7_knock 30 = .ok (.getfield 19, 3) := by decide +kernel
theorem dX7_knock_33 : decode cX7_knock 33 = .ok (.iload_n 1, 1) := by decide +kernel
theorem dX7_knock_34 : decode cX7_knock 34 = .ok (.iaload, 1) := by decide +kernel
theorem dX7_knock_35 : decode cX7_knock 35 = .ok (.iconst 2, 1) := by decide +kernel
theorem dX7_knock_36 : decode cX7_knock 36 = .ok (.if_icmp .ne 8, 3) := by decide +kernel
theorem dX7_knock_39 : decode cX7_knock 39 = .ok (.bipush 70, 2) := by decide +kernel
theorem dX7_knock_41 : decode cX7_knock 41 = .ok (.goto 4, 3) := by decide +kernel
theorem dX7_knock_44 : decode cX7_knock 44 = .ok (.iload_n 1, 1) := by decide +kernel
theorem dX7_knock_45 : decode cX7_knock 45 = .ok (.ireturn, 1) := by decide +kernel
theorem dX7_as_0 : decode cX7_as 0 = .ok (.aload_n 0, 1) := by decide +kernel
theorem dX7_as_1 : decode cX7_as 1 = .ok (.iconst 0, 1) := by decide +kernel
theorem dX7_as_2 : decode cX7_as 2 = .ok (.putfield 69, 3) := by decide +kernel
theorem dX7_as_5 : decode cX7_as 5 = .ok (.aload_n 0, 1) := by decide +kernel
theorem dX7_as_6 : decode cX7_as 6 = .ok (.iload_n 1, 1) := by decide +kernel
theorem dX7_as_7 : decode cX7_as 7 = .ok (.invokevirtual 139, 3) := by decide +kernel
theorem dX7_as_10 : decode cX7_as 10 = .ok (.ifCond .ne 5, 3) := by decide +kernel
theorem dX7_as_13 : decode cX7_as 13 = .ok (.iconst (-1), 1) := by decide +kernel
theorem dX7_as_14 : decode cX7_as 14 = .ok (.ireturn, 1) := by decide +kernel
theorem dX7_as_15 : decode cX7_as 15 = .ok (.iload_n 2, 1) := by decide +kernel
theorem dX7_as_16 : decode cX7_as 16 = .ok (.iconst 0, 1) := by decide +kernel
theorem dX7_as_17 : decode cX7_as 17 = .ok (.iconst 2, 1) := by decide +kernel
theorem dX7_as_18 : decode cX7_as 18 = .ok (.invokestatic 74, 3) := by decide +kernel
theorem dX7_as_21 : decode cX7_as 21 = .ok (.ifCond .ne 6, 3) := by decide +kernel
theorem dX7_as_24 : decode cX7_as 24 = .ok (.bipush (-2), 2) := by decide +kernel
theorem dX7_as_26 : decode cX7_as 26 = .ok (.ireturn, 1) := by decide +kernel
theorem dX7_as_27 : decode cX7_as 27 = .ok (.aload_n 0, 1) := by decide +kernel
theorem dX7_as_28 : decode cX7_as 28 = .ok (.getfield 19, 3) := by decide +kernel
theorem dX7_as_31 : decode cX7_as 31 = .ok (.iload_n 1, 1) := by decide +kernel
theorem dX7_as_32 : decode cX7_as 32 = .ok (.iaload, 1) := by decide +kernel
theorem dX7_as_33 : decode cX7_as 33 = .ok (.iload_n 2, 1) := by decide +kernel
theorem dX7_as_34 : decode cX7_as 34 = .ok (.if_icmp .lt 7, 3) := by decide +kernel
theorem dX7_as_37 : decode cX7_as 37 = .ok (.iconst 1, 1) := by decide +kernel
theorem dX7_as_38 : decode cX7_as 38 = .ok (.goto 8, 3) := by decide +kernel
theorem dX7_as_41 : decode cX7_as 41 = .ok (.aload_n 0, 1) := by decide +kernel
theorem dX7_as_42 : decode cX7_as 42 = .ok (.iconst 2, 1) := by decide +kernel
theorem dX7_as_43 : decode cX7_as 43 = .ok (.invokevirtual 92, 3) := by decide +kernel
theorem dX7_as_46 : decode cX7_as 46 = .ok (.ireturn, 1) := by decide +kernel
theorem dX7_trace_0 : decode cX7_trace 0 = .ok (.aload_n 0, 1) := by decide +kernel
theorem dX7_trace_1 : decode cX7_trace 1 = .ok (.getfield 217, 3) := by decide +kernel
theorem dX7_trace_4 : decode cX7_trace 4 = .ok (.ireturn, 1) := by decide +kernel
theorem dX7_fault_0 : decode cX7_fault 0 = .ok (.aload_n 0, 1) := by decide +kernel
theorem dX7_fault_1 : decode cX7_fault 1 = .ok (.getfield 69, 3) := by decide +kernel
theorem dX7_fault_4 : decode cX7_fault 4 = .ok (.ireturn, 1) := by decide +kernel
theorem dX7_many_0 : decode cX7_many 0 = .ok (.iload_n 1, 1) := by decide +kernel
theorem dX7_many_1 : decode cX7_many 1 = .ok (.tableswitch 60 0 4 #[35, 40, 45, 50, 55], 35) := by decide +kernel
theorem dX7_many_36 : decode cX7_many 36 = .ok (.aload_n 0, 1) := by decide +kernel
theorem dX7_many_37 : decode cX7_many 37 = .ok (.getfield 78, 3) := by decide +kernel
theorem dX7_many_40 : decode cX7_many 40 = .ok (.ireturn, 1) := by decide +kernel
theorem dX7_many_41 : decode cX7_many 41 = .ok (.aload_n 0, 1) := by decide +kernel
theorem dX7_many_42 : decode cX7_many 42 = .ok (.getfield 105, 3) := by decide +kernel
theorem dX7_many_45 : decode cX7_many 45 = .ok (.ireturn, 1) := by decide +kernel
theorem dX7_many_46 : decode cX7_many 46 = .ok (.aload_n 0, 1) := by decide +kernel
theorem dX7_many_47 : decode cX7_many 47 = .ok (.getfield 111, 3) := by decide +kernel
theorem dX7_many_50 : decode cX7_many 50 = .ok (.ireturn, 1) := by decide +kernel
theorem dX7_many_51 : decode cX7_many 51 = .ok (.aload_n 0, 1) := by decide +kernel
theorem dX7_many_52 : decode cX7_many 52 = .ok (.getfield 120, 3) := by decide +kernel
theorem dX7_many_55 : decode cX7_many 55 = .ok (.ireturn, 1) := by decide +kernel
theorem dX7_many_56 : decode cX7_many 56 = .ok (.aload_n 0, 1) := by decide +kernel
theorem dX7_many_57 : decode cX7_many 57 = .ok (.getfield 129, 3) := by decide +kernel
theorem dX7_many_60 : decode cX7_many 60 = .ok (.ireturn, 1) := by decide +kernel
theorem dX7_many_61 : decode cX7_many 61 = .ok (.bipush (-2), 2) := by decide +kernel
theorem dX7_many_63 : decode cX7_many 63 = .ok (.ireturn, 1) := by decide +kernel
end
section
theorem dL_law_0 : decode cL_law 0 = .ok (.new 7, 3) := by decide +kernel
theorem dL_law_3 : decode cL_law 3 = .ok (.dup, 1) := by decide +kernel
theorem dL_law_4 : decode cL_law 4 = .ok (.invokespecial 9, 3) := by decide +kernel
theorem dL_law_7 : decode cL_law 7 = .ok (.astore_n 1, 1) := by decide +kernel
theorem dL_law_8 : decode cL_law 8 = .ok (.new 10, 3) := by decide +kernel
theorem dL_law_11 : decode cL_law 11 = .ok (.dup, 1) := by decide +kernel
theorem dL_law_12 : decode cL_law 12 = .ok (.invokespecial 12, 3) := by decide +kernel
theorem dL_law_15 : decode cL_law 15 = .ok (.astore_n 2, 1) := by decide +kernel
theorem dL_law_16 : decode cL_law 16 = .ok (.iconst 0, 1) := by decide +kernel
theorem dL_law_17 : decode cL_law 17 = .ok (.istore_n 3, 1) := by decide +kernel
theorem dL_law_18 : decode cL_law 18 = .ok (.iload_n 3, 1) := by decide +kernel
theorem dL_law_19 : decode cL_law 19 = .ok (.aload_n 0, 1) := by decide +kernel
theorem dL_law_20 : decode cL_law 20 = .ok (.arraylength, 1) := by decide +kernel
theorem dL_law_21 : decode cL_law 21 = .ok (.bipush 6, 2) := by decide +kernel
theorem dL_law_23 : decode cL_law 23 = .ok (.isub, 1) := by decide +kernel
theorem dL_law_24 : decode cL_law 24 = .ok (.if_icmp .gt 1194, 3) := by decide +kernel
theorem dL_law_27 : decode cL_law 27 = .ok (.aload_n 0, 1) := by decide +kernel
theorem dL_law_28 : decode cL_law 28 = .ok (.iload_n 3, 1) := by decide +kernel
theorem dL_law_29 : decode cL_law 29 = .ok (.iaload, 1) := by decide +kernel
theorem dL_law_30 : decode cL_law 30 = .ok (.bipush 63, 2) := by decide +kernel
theorem dL_law_32 : decode cL_law 32 = .ok (.iand, 1) := by decide +kernel
theorem dL_law_33 : decode cL_law 33 = .ok (.tableswitch 1179 0 32 #[147, 200, 233, 266, 289, 322, 345, 378, 411, 434, 457, 480, 503, 526, 549, 582, 615, 649, 713, 746, 769, 802, 835, 878, 901, 944, 988, 1051, 1074, 1097, 1130, 1143, 1156], 147) := by decide +kernel
theorem dL_law_180 : decode cL_law 180 = .ok (.aload_n 1, 1) := by decide +kernel
theorem dL_law_181 : decode cL_law 181 = .ok (.aload_n 0, 1) := by decide +kernel
theorem dL_law_182 : decode cL_law 182 = .ok (.iload_n 3, 1) := by decide +kernel
theorem dL_law_183 : decode cL_law 183 = .ok (.iconst 1, 1) := by decide +kernel
theorem dL_law_184 : decode cL_law 184 = .ok (.iadd, 1) := by decide +kernel
theorem dL_law_185 : decode cL_law 185 = .ok (.iaload, 1) := by decide +kernel
theorem dL_law_186 : decode cL_law 186 = .ok (.aload_n 0, 1) := by decide +kernel
theorem dL_law_187 : decode cL_law 187 = .ok (.iload_n 3, 1) := by decide +kernel
theorem dL_law_188 : decode cL_law 188 = .ok (.iconst 2, 1) := by decide +kernel
theorem dL_law_189 : decode cL_law 189 = .ok (.iadd, 1) := by decide +kernel
theorem dL_law_190 : decode cL_law 190 = .ok (.iaload, 1) := by decide +kernel
theorem dL_law_191 : decode cL_law 191 = .ok (.aload_n 0, 1) := by decide +kernel
theorem dL_law_192 : decode cL_law 192 = .ok (.iload_n 3, 1) := by decide +kernel
theorem dL_law_193 : decode cL_law 193 = .ok (.iconst 3, 1) := by decide +kernel
theorem dL_law_194 : decode cL_law 194 = .ok (.iadd, 1) := by decide +kernel
theorem dL_law_195 : decode cL_law 195 = .ok (.iaload, 1) := by decide +kernel
theorem dL_law_196 : decode cL_law 196 = .ok (.aload_n 0, 1) := by decide +kernel
theorem dL_law_197 : decode cL_law 197 = .ok (.iload_n 3, 1) := by decide +kernel
theorem dL_law_198 : decode cL_law 198 = .ok (.iconst 4, 1) := by decide +kernel
theorem dL_law_199 : decode cL_law 199 = .ok (.iadd, 1) := by decide +kernel
theorem dL_law_200 : decode cL_law 200 = .ok (.iaload, 1) := by decide +kernel
theorem dL_law_201 : decode cL_law 201 = .ok (.invokevirtual 13, 3) := by decide +kernel
theorem dL_law_204 : decode cL_law 204 = .ok (.aload_n 2, 1) := by decide +kernel
theorem dL_law_205 : decode cL_law 205 = .ok (.aload_n 0, 1) := by decide +kernel
theorem dL_law_206 : decode cL_law 206 = .ok (.iload_n 3, 1) := by decide +kernel
theorem dL_law_207 : decode cL_law 207 = .ok (.iconst 1, 1) := by decide +kernel
theorem dL_law_208 : decode cL_law 208 = .ok (.iadd, 1) := by decide +kernel
theorem dL_law_209 : decode cL_law 209 = .ok (.iaload, 1) := by decide +kernel
theorem dL_law_210 : decode cL_law 210 = .ok (.aload_n 0, 1) := by decide +kernel
theorem dL_law_211 : decode cL_law 211 = .ok (.iload_n 3, 1) := by decide +kernel
theorem dL_law_212 : decode cL_law 212 = .ok (.iconst 2, 1) := by decide +kernel
theorem dL_law_213 : decode cL_law 213 = .ok (.iadd, 1) := by decide +kernel
theorem dL_law_214 : decode cL_law 214 = .ok (.iaload, 1) := by decide +kernel
theorem dL_law_215 : decode cL_law 215 = .ok (.aload_n 0, 1) := by decide +kernel
theorem dL_law_216 : decode cL_law 216 = .ok (.iload_n 3, 1) := by decide +kernel
theorem dL_law_217 : decode cL_law 217 = .ok (.iconst 3, 1) := by decide +kernel
theorem dL_law_218 : decode cL_law 218 = .ok (.iadd, 1) := by decide +kernel
theorem dL_law_219 : decode cL_law 219 = .ok (.iaload, 1) := by decide +kernel
theorem dL_law_220 : decode cL_law 220 = .ok (.aload_n 0, 1) := by decide +kernel
theorem dL_law_221 : decode cL_law 221 = .ok (.iload_n 3, 1) := by decide +kernel
theorem dL_law_222 : decode cL_law 222 = .ok (.iconst 4, 1) := by decide +kernel
theorem dL_law_223 : decode cL_law 223 = .ok (.iadd, 1) := by decide +kernel
theorem dL_law_224 : decode cL_law 224 = .ok (.iaload, 1) := by decide +kernel
theorem dL_law_225 : decode cL_law 225 = .ok (.invokevirtual 17, 3) := by decide +kernel
theorem dL_law_228 : decode cL_law 228 = .ok (.if_icmp .eq 984, 3) := by decide +kernel
theorem dL_law_231 : decode cL_law 231 = .ok (.iconst 0, 1) := by decide +kernel
theorem dL_law_232 : decode cL_law 232 = .ok (.ireturn, 1) := by decide +kernel
theorem dL_law_233 : decode cL_law 233 = .ok (.aload_n 1, 1) := by decide +kernel
theorem dL_law_234 : decode cL_law 234 = .ok (.aload_n 0, 1) := by decide +kernel
theorem dL_law_235 : decode cL_law 235 = .ok (.iload_n 3, 1) := by decide +kernel
theorem dL_law_236 : decode cL_law 236 = .ok (.iconst 1, 1) := by decide +kernel
theorem dL_law_237 : decode cL_law 237 = .ok (.iadd, 1) := by decide +kernel
theorem dL_law_238 : decode cL_law 238 = .ok (.iaload, 1) := by decide +kernel
theorem dL_law_239 : decode cL_law 239 = .ok (.aload_n 0, 1) := by decide +kernel
theorem dL_law_240 : decode cL_law 240 = .ok (.iload_n 3, 1) := by decide +kernel
theorem dL_law_241 : decode cL_law 241 = .ok (.iconst 2, 1) := by decide +kernel
theorem dL_law_242 : decode cL_law 242 = .ok (.iadd, 1) := by decide +kernel
theorem dL_law_243 : decode cL_law 243 = .ok (.iaload, 1) := by decide +kernel
theorem dL_law_244 : decode cL_law 244 = .ok (.invokevirtual 18, 3) := by decide +kernel
theorem dL_law_247 : decode cL_law 247 = .ok (.aload_n 2, 1) := by decide +kernel
theorem dL_law_248 : decode cL_law 248 = .ok (.aload_n 0, 1) := by decide +kernel
theorem dL_law_249 : decode cL_law 249 = .ok (.iload_n 3, 1) := by decide +kernel
theorem dL_law_250 : decode cL_law 250 = .ok (.iconst 1, 1) := by decide +kernel
theorem dL_law_251 : decode cL_law 251 = .ok (.iadd, 1) := by decide +kernel
theorem dL_law_252 : decode cL_law 252 = .ok (.iaload, 1) := by decide +kernel
theorem dL_law_253 : decode cL_law 253 = .ok (.aload_n 0, 1) := by decide +kernel
theorem dL_law_254 : decode cL_law 254 = .ok (.iload_n 3, 1) := by decide +kernel
theorem dL_law_255 : decode cL_law 255 = .ok (.iconst 2, 1) := by decide +kernel
theorem dL_law_256 : decode cL_law 256 = .ok (.iadd, 1) := by decide +kernel
theorem dL_law_257 : decode cL_law 257 = .ok (.iaload, 1) := by decide +kernel
theorem dL_law_258 : decode cL_law 258 = .ok (.invokevirtual 22, 3) := by decide +kernel
theorem dL_law_261 : decode cL_law 261 = .ok (.if_icmp .eq 951, 3) := by decide +kernel
theorem dL_law_264 : decode cL_law 264 = .ok (.iconst 0, 1) := by decide +kernel
theorem dL_law_265 : decode cL_law 265 = .ok (.ireturn, 1) := by decide +kernel
theorem dL_law_266 : decode cL_law 266 = .ok (.aload_n 1, 1) := by decide +kernel
theorem dL_law_267 : decode cL_law 267 = .ok (.aload_n 0, 1) := by decide +kernel
theorem dL_law_268 : decode cL_law 268 = .ok (.iload_n 3, 1) := by decide +kernel
theorem dL_law_269 : decode cL_law 269 = .ok (.iconst 1, 1) := by decide +kernel
theorem dL_law_270 : decode cL_law 270 = .ok (.iadd, 1) := by decide +kernel
theorem dL_law_271 : decode cL_law 271 = .ok (.iaload, 1) := by decide +kernel
theorem dL_law_272 : decode cL_law 272 = .ok (.aload_n 0, 1) := by decide +kernel
theorem dL_law_273 : decode cL_law 273 = .ok (.iload_n 3, 1) := by decide +kernel
theorem dL_law_274 : decode cL_law 274 = .ok (.iconst 2, 1) := by decide +kernel
theorem dL_law_275 : decode cL_law 275 = .ok (.iadd, 1) := by decide +kernel
theorem dL_law_276 : decode cL_law 276 = .ok (.iaload, 1) := by decide +kernel
theorem dL_law_277 : decode cL_law 277 = .ok (.invokevirtual 23, 3) := by decide +kernel
theorem dL_law_280 : decode cL_law 280 = .ok (.aload_n 2, 1) := by decide +kernel
theorem dL_law_281 : decode cL_law 281 = .ok (.aload_n 0, 1) := by decide +kernel
theorem dL_law_282 : decode cL_law 282 = .ok (.iload_n 3, 1) := by decide +kernel
theorem dL_law_283 : decode cL_law 283 = .ok (.iconst 1, 1) := by decide +kernel
theorem dL_law_284 : decode cL_law 284 = .ok (.iadd, 1) := by decide +kernel
theorem dL_law_285 : decode cL_law 285 = .ok (.iaload, 1) := by decide +kernel
theorem dL_law_286 : decode cL_law 286 = .ok (.aload_n 0, 1) := by decide +kernel
theorem dL_law_287 : decode cL_law 287 = .ok (.iload_n 3, 1) := by decide +kernel
theorem dL_law_288 : decode cL_law 288 = .ok (.iconst 2, 1) := by decide +kernel
theorem dL_law_289 : decode cL_law 289 = .ok (.iadd, 1) := by decide +kernel
theorem dL_law_290 : decode cL_law 290 = .ok (.iaload, 1) := by decide +kernel
theorem dL_law_291 : decode cL_law 291 = .ok (.invokevirtual 26, 3) := by decide +kernel
theorem dL_law_294 : decode cL_law 294 = .ok (.if_icmp .eq 918, 3) := by decide +kernel
theorem dL_law_297 : decode cL_law 297 = .ok (.iconst 0, 1) := by decide +kernel
theorem dL_law_298 : decode cL_law 298 = .ok (.ireturn, 1) := by decide +kernel
theorem dL_law_299 : decode cL_law 299 = .ok (.aload_n 1, 1) := by decide +kernel
theorem dL_law_300 : decode cL_law 300 = .ok (.aload_n 0, 1) := by decide +kernel
theorem dL_law_301 : decode cL_law 301 = .ok (.iload_n 3, 1) := by decide +kernel
theorem dL_law_302 : decode cL_law 302 = .ok (.iconst 1, 1) := by decide +kernel
theorem dL_law_303 : decode cL_law 303 = .ok (.iadd, 1) := by decide +kernel
theorem dL_law_304 : decode cL_law 304 = .ok (.iaload, 1) := by decide +kernel
theorem dL_law_305 : decode cL_law 305 = .ok (.invokevirtual 27, 3) := by decide +kernel
theorem dL_law_308 : decode cL_law 308 = .ok (.aload_n 2, 1) := by decide +kernel
theorem dL_law_309 : decode cL_law 309 = .ok (.aload_n 0, 1) := by decide +kernel
theorem dL_law_310 : decode cL_law 310 = .ok (.iload_n 3, 1) := by decide +kernel
theorem dL_law_311 : decode cL_law 311 = .ok (.iconst 1, 1) := by decide +kernel
theorem dL_law_312 : decode cL_law 312 = .ok (.iadd, 1) := by decide +kernel
theorem dL_law_313 : decode cL_law 313 = .ok (.iaload, 1) := by decide +kernel
theorem dL_law_314 : decode cL_law 314 = .ok (.invokevirtual 31, 3) := by decide +kernel
theorem dL_law_317 : decode cL_law 317 = .ok (.if_icmp .eq 895, 3) := by decide +kernel
theorem dL_law_320 : decode cL_law 320 = .ok (.iconst 0, 1) := by decide +kernel
theorem dL_law_321 : decode cL_law 321 = .ok (.ireturn, 1) := by decide +kernel
theorem dL_law_322 : decode cL_law 322 = .ok (.aload_n 1, 1) := by decide +kernel
theorem dL_law_323 : decode cL_law 323 = .ok (.aload_n 0, 1) := by decide +kernel
theorem dL_law_324 : decode cL_law 324 = .ok (.iload_n 3, 1) := by decide +kernel
theorem dL_law_325 : decode cL_law 325 = .ok (.iconst 1, 1) := by decide +kernel
theorem dL_law_326 : decode cL_law 326 = .ok (.iadd, 1) := by decide +kernel
theorem dL_law_327 : decode cL_law 327 = .ok (.iaload, 1) := by decide +kernel
theorem dL_law_328 : decode cL_law 328 = .ok (.aload_n 0, 1) := by decide +kernel
theorem dL_law_329 : decode cL_law 329 = .ok (.iload_n 3, 1) := by decide +kernel
theorem dL_law_330 : decode cL_law 330 = .ok (.iconst 2, 1) := by decide +kernel
theorem dL_law_331 : decode cL_law 331 = .ok (.iadd, 1) := by decide +kernel
theorem dL_law_332 : decode cL_law 332 = .ok (.iaload, 1) := by decide +kernel
theorem dL_law_333 : decode cL_law 333 = .ok (.invokevirtual 32, 3) := by decide +kernel
theorem dL_law_336 : decode cL_law 336 = .ok (.aload_n 2, 1) := by decide +kernel
theorem dL_law_337 : decode cL_law 337 = .ok (.aload_n 0, 1) := by decide +kernel
theorem dL_law_338 : decode cL_law 338 = .ok (.iload_n 3, 1) := by decide +kernel
theorem dL_law_339 : decode cL_law 339 = .ok (.iconst 1, 1) := by decide +kernel
theorem dL_law_340 : decode cL_law 340 = .ok (.iadd, 1) := by decide +kernel
theorem dL_law_341 : decode cL_law 341 = .ok (.iaload, 1) := by decide +kernel
theorem dL_law_342 : decode cL_law 342 = .ok (.aload_n 0, 1) := by decide +kernel
theorem dL_law_343 : decode cL_law 343 = .ok (.iload_n 3, 1) := by decide +kernel
theorem dL_law_344 : decode cL_law 344 = .ok (.iconst 2, 1) := by decide +kernel
theorem dL_law_345 : decode cL_law 345 = .ok (.iadd, 1) := by decide +kernel
theorem dL_law_346 : decode cL_law 346 = .ok (.iaload, 1) := by decide +kernel
theorem dL_law_347 : decode cL_law 347 = .ok (.invokevirtual 35, 3) := by decide +kernel
theorem dL_law_350 : decode cL_law 350 = .ok (.if_icmp .eq 862, 3) := by decide +kernel
theorem dL_law_353 : decode cL_law 353 = .ok (.iconst 0, 1) := by decide +kernel
theorem dL_law_354 : decode cL_law 354 = .ok (.ireturn, 1) := by decide +kernel
theorem dL_law_355 : decode cL_law 355 = .ok (.aload_n 1, 1) := by decide +kernel
theorem dL_law_356 : decode cL_law 356 = .ok (.aload_n 0, 1) := by decide +kernel
theorem dL_law_357 : decode cL_law 357 = .ok (.iload_n 3, 1) := by decide +kernel
theorem dL_law_358 : decode cL_law 358 = .ok (.iconst 1, 1) := by decide +kernel
theorem dL_law_359 : decode cL_law 359 = .ok (.iadd, 1) := by decide +kernel
theorem dL_law_360 : decode cL_law 360 = .ok (.iaload, 1) := by decide +kernel
theorem dL_law_361 : decode cL_law 361 = .ok (.invokevirtual 36, 3) := by decide +kernel
theorem dL_law_364 : decode cL_law 364 = .ok (.aload_n 2, 1) := by decide +kernel
theorem dL_law_365 : decode cL_law 365 = .ok (.aload_n 0, 1) := by decide +kernel
theorem dL_law_366 : decode cL_law 366 = .ok (.iload_n 3, 1) := by decide +kernel
theorem dL_law_367 : decode cL_law 367 = .ok (.iconst 1, 1) := by decide +kernel
theorem dL_law_368 : decode cL_law 368 = .ok (.iadd, 1) := by decide +kernel
theorem dL_law_369 : decode cL_law 369 = .ok (.iaload, 1) := by decide +kernel
theorem dL_law_370 : decode cL_law 370 = .ok (.invokevirtual 39, 3) := by decide +kernel
theorem dL_law_373 : decode cL_law 373 = .ok (.if_icmp .eq 839, 3) := by decide +kernel
theorem dL_law_376 : decode cL_law 376 = .ok (.iconst 0, 1) := by decide +kernel
theorem dL_law_377 : decode cL_law 377 = .ok (.ireturn, 1) := by decide +kernel
theorem dL_law_378 : decode cL_law 378 = .ok (.aload_n 1, 1) := by decide +kernel
theorem dL_law_379 : decode cL_law 379 = .ok (.aload_n 0, 1) := by decide +kernel
theorem dL_law_380 : decode cL_law 380 = .ok (.iload_n 3, 1) := by decide +kernel
theorem dL_law_381 : decode cL_law 381 = .ok (.iconst 1, 1) := by decide +kernel
theorem dL_law_382 : decode cL_law 382 = .ok (.iadd, 1) := by decide +kernel
theorem dL_law_383 : decode cL_law 383 = .ok (.iaload, 1) := by decide +kernel
theorem dL_law_384 : decode cL_law 384 = .ok (.aload_n 0, 1) := by decide +kernel
theorem dL_law_385 : decode cL_law 385 = .ok (.iload_n 3, 1) := by decide +kernel
theorem dL_law_386 : decode cL_law 386 = .ok (.iconst 2, 1) := by decide +kernel
theorem dL_law_387 : decode cL_law 387 = .ok (.iadd, 1) := by decide +kernel
theorem dL_law_388 : decode cL_law 388 = .ok (.iaload, 1) := by decide +kernel
theorem dL_law_389 : decode cL_law 389 = .ok (.invokevirtual 40, 3) := by decide +kernel
theorem dL_law_392 : decode cL_law 392 = .ok (.aload_n 2, 1) := by decide +kernel
theorem dL_law_393 : decode cL_law 393 = .ok (.aload_n 0, 1) := by decide +kernel
theorem dL_law_394 : decode cL_law 394 = .ok (.iload_n 3, 1) := by decide +kernel
theorem dL_law_395 : decode cL_law 395 = .ok (.iconst 1, 1) := by decide +kernel
theorem dL_law_396 : decode cL_law 396 = .ok (.iadd, 1) := by decide +kernel
theorem dL_law_397 : decode cL_law 397 = .ok (.iaload, 1) := by decide +kernel
theorem dL_law_398 : decode cL_law 398 = .ok (.aload_n 0, 1) := by decide +kernel
theorem dL_law_399 : decode cL_law 399 = .ok (.iload_n 3, 1) := by decide +kernel
theorem dL_law_400 : decode cL_law 400 = .ok (.iconst 2, 1) := by decide +kernel
theorem dL_law_401 : decode cL_law 401 = .ok (.iadd, 1) := by decide +kernel
theorem dL_law_402 : decode cL_law 402 = .ok (.iaload, 1) := by decide +kernel
theorem dL_law_403 : decode cL_law 403 = .ok (.invokevirtual 43, 3) := by decide +kernel
theorem dL_law_406 : decode cL_law 406 = .ok (.if_icmp .eq 806, 3) := by decide +kernel
theorem dL_law_409 : decode cL_law 409 = .ok (.iconst 0, 1) := by decide +kernel
theorem dL_law_410 : decode cL_law 410 = .ok (.ireturn, 1) := by decide +kernel
theorem dL_law_411 : decode cL_law 411 = .ok (.aload_n 1, 1) := by decide +kernel
theorem dL_law_412 : decode cL_law 412 = .ok (.aload_n 0, 1) := by decide +kernel
theorem dL_law_413 : decode cL_law 413 = .ok (.iload_n 3, 1) := by decide +kernel
theorem dL_law_414 : decode cL_law 414 = .ok (.iconst 1, 1) := by decide +kernel
theorem dL_law_415 : decode cL_law 415 = .ok (.iadd, 1) := by decide +kernel
theorem dL_law_416 : decode cL_law 416 = .ok (.iaload, 1) := by decide +kernel
theorem dL_law_417 : decode cL_law 417 = .ok (.aload_n 0, 1) := by decide +kernel
theorem dL_law_418 : decode cL_law 418 = .ok (.iload_n 3, 1) := by decide +kernel
theorem dL_law_419 : decode cL_law 419 = .ok (.iconst 2, 1) := by decide +kernel
theorem dL_law_420 : decode cL_law 420 = .ok (.iadd, 1) := by decide +kernel
theorem dL_law_421 : decode cL_law 421 = .ok (.iaload, 1) := by decide +kernel
theorem dL_law_422 : decode cL_law 422 = .ok (.invokevirtual 44, 3) := by decide +kernel
theorem dL_law_425 : decode cL_law 425 = .ok (.aload_n 2, 1) := by decide +kernel
theorem dL_law_426 : decode cL_law 426 = .ok (.aload_n 0, 1) := by decide +kernel
theorem dL_law_427 : decode cL_law 427 = .ok (.iload_n 3, 1) := by decide +kernel
theorem dL_law_428 : decode cL_law 428 = .ok (.iconst 1, 1) := by decide +kernel
theorem dL_law_429 : decode cL_law 429 = .ok (.iadd, 1) := by decide +kernel
theorem dL_law_430 : decode cL_law 430 = .ok (.iaload, 1) := by decide +kernel
theorem dL_law_431 : decode cL_law 431 = .ok (.aload_n 0, 1) := by decide +kernel
theorem dL_law_432 : decode cL_law 432 = .ok (.iload_n 3, 1) := by decide +kernel
theorem dL_law_433 : decode cL_law 433 = .ok (.iconst 2, 1) := by decide +kernel
theorem dL_law_434 : decode cL_law 434 = .ok (.iadd, 1) := by decide +kernel
theorem dL_law_435 : decode cL_law 435 = .ok (.iaload, 1) := by decide +kernel
theorem dL_law_436 : decode cL_law 436 = .ok (.invokevirtual 47, 3) := by decide +kernel
theorem dL_law_439 : decode cL_law 439 = .ok (.if_icmp .eq 773, 3) := by decide +kernel
theorem dL_law_442 : decode cL_law 442 = .ok (.iconst 0, 1) := by decide +kernel
theorem dL_law_443 : decode cL_law 443 = .ok (.ireturn, 1) := by decide +kernel
theorem dL_law_444 : decode cL_law 444 = .ok (.aload_n 1, 1) := by decide +kernel
theorem dL_law_445 : decode cL_law 445 = .ok (.aload_n 0, 1) := by decide +kernel
theorem dL_law_446 : decode cL_law 446 = .ok (.iload_n 3, 1) := by decide +kernel
theorem dL_law_447 : decode cL_law 447 = .ok (.iconst 1, 1) := by decide +kernel
theorem dL_law_448 : decode cL_law 448 = .ok (.iadd, 1) := by decide +kernel
theorem dL_law_449 : decode cL_law 449 = .ok (.iaload, 1) := by decide +kernel
theorem dL_law_450 : decode cL_law 450 = .ok (.invokevirtual 48, 3) := by decide +kernel
theorem dL_law_453 : decode cL_law 453 = .ok (.aload_n 2, 1) := by decide +kernel
theorem dL_law_454 : decode cL_law 454 = .ok (.aload_n 0, 1) := by decide +kernel
theorem dL_law_455 : decode cL_law 455 = .ok (.iload_n 3, 1) := by decide +kernel
theorem dL_law_456 : decode cL_law 456 = .ok (.iconst 1, 1) := by decide +kernel
theorem dL_law_457 : decode cL_law 457 = .ok (.iadd, 1) := by decide +kernel
theorem dL_law_458 : decode cL_law 458 = .ok (.iaload, 1) := by decide +kernel
theorem dL_law_459 : decode cL_law 459 = .ok (.invokevirtual 51, 3) := by decide +kernel
theorem dL_law_462 : decode cL_law 462 = .ok (.if_icmp .eq 750, 3) := by decide +kernel
theorem dL_law_465 : decode cL_law 465 = .ok (.iconst 0, 1) := by decide +kernel
theorem dL_law_466 : decode cL_law 466 = .ok (.ireturn, 1) := by decide +kernel
theorem dL_law_467 : decode cL_law 467 = .ok (.aload_n 1, 1) := by decide +kernel
theorem dL_law_468 : decode cL_law 468 = .ok (.aload_n 0, 1) := by decide +kernel
theorem dL_law_469 : decode cL_law 469 = .ok (.iload_n 3, 1) := by decide +kernel
theorem dL_law_470 : decode cL_law 470 = .ok (.iconst 1, 1) := by decide +kernel
theorem dL_law_471 : decode cL_law 471 = .ok (.iadd, 1) := by decide +kernel
theorem dL_law_472 : decode cL_law 472 = .ok (.iaload, 1) := by decide +kernel
theorem dL_law_473 : decode cL_law 473 = .ok (.invokevirtual 52, 3) := by decide +kernel
theorem dL_law_476 : decode cL_law 476 = .ok (.aload_n 2, 1) := by decide +kernel
theorem dL_law_477 : decode cL_law 477 = .ok (.aload_n 0, 1) := by decide +kernel
theorem dL_law_478 : decode cL_law 478 = .ok (.iload_n 3, 1) := by decide +kernel
theorem dL_law_479 : decode cL_law 479 = .ok (.iconst 1, 1) := by decide +kernel
theorem dL_law_480 : decode cL_law 480 = .ok (.iadd, 1) := by decide +kernel
theorem dL_law_481 : decode cL_law 481 = .ok (.iaload, 1) := by decide +kernel
theorem dL_law_482 : decode cL_law 482 = .ok (.invokevirtual 55, 3) := by decide +kernel
theorem dL_law_485 : decode cL_law 485 = .ok (.if_icmp .eq 727, 3) := by decide +kernel
theorem dL_law_488 : decode cL_law 488 = .ok (.iconst 0, 1) := by decide +kernel
theorem dL_law_489 : decode cL_law 489 = .ok (.ireturn, 1) := by decide +kernel
theorem dL_law_490 : decode cL_law 490 = .ok (.aload_n 1, 1) := by decide +kernel
theorem dL_law_491 : decode cL_law 491 = .ok (.aload_n 0, 1) := by decide +kernel
theorem dL_law_492 : decode cL_law 492 = .ok (.iload_n 3, 1) := by decide +kernel
theorem dL_law_493 : decode cL_law 493 = .ok (.iconst 1, 1) := by decide +kernel
theorem dL_law_494 : decode cL_law 494 = .ok (.iadd, 1) := by decide +kernel
theorem dL_law_495 : decode cL_law 495 = .ok (.iaload, 1) := by decide +kernel
theorem dL_law_496 : decode cL_law 496 = .ok (.invokevirtual 56, 3) := by decide +kernel
theorem dL_law_499 : decode cL_law 499 = .ok (.aload_n 2, 1) := by decide +kernel
theorem dL_law_500 : decode cL_law 500 = .ok (.aload_n 0, 1) := by decide +kernel
theorem dL_law_501 : decode cL_law 501 = .ok (.iload_n 3, 1) := by decide +kernel
theorem dL_law_502 : decode cL_law 502 = .ok (.iconst 1, 1) := by decide +kernel
theorem dL_law_503 : decode cL_law 503 = .ok (.iadd, 1) := by decide +kernel
theorem dL_law_504 : decode cL_law 504 = .ok (.iaload, 1) := by decide +kernel
theorem dL_law_505 : decode cL_law 505 = .ok (.invokevirtual 59, 3) := by decide +kernel
theorem dL_law_508 : decode cL_law 508 = .ok (.if_icmp .eq 704, 3) := by decide +kernel
theorem dL_law_511 : decode cL_law 511 = .ok (.iconst 0, 1) := by decide +kernel
theorem dL_law_512 : decode cL_law 512 = .ok (.ireturn, 1) := by decide +kernel
theorem dL_law_513 : decode cL_law 513 = .ok (.aload_n 1, 1) := by decide +kernel
theorem dL_law_514 : decode cL_law 514 = .ok (.aload_n 0, 1) := by decide +kernel
theorem dL_law_515 : decode cL_law 515 = .ok (.iload_n 3, 1) := by decide +kernel
theorem dL_law_516 : decode cL_law 516 = .ok (.iconst 1, 1) := by decide +kernel
theorem dL_law_517 : decode cL_law 517 = .ok (.iadd, 1) := by decide +kernel
theorem dL_law_518 : decode cL_law 518 = .ok (.iaload, 1) := by decide +kernel
theorem dL_law_519 : decode cL_law 519 = .ok (.invokevirtual 60, 3) := by decide +kernel
theorem dL_law_522 : decode cL_law 522 = .ok (.aload_n 2, 1) := by decide +kernel
theorem dL_law_523 : decode cL_law 523 = .ok (.aload_n 0, 1) := by decide +kernel
theorem dL_law_524 : decode cL_law 524 = .ok (.iload_n 3, 1) := by decide +kernel
theorem dL_law_525 : decode cL_law 525 = .ok (.iconst 1, 1) := by decide +kernel
theorem dL_law_526 : decode cL_law 526 = .ok (.iadd, 1) := by decide +kernel
theorem dL_law_527 : decode cL_law 527 = .ok (.iaload, 1) := by decide +kernel
theorem dL_law_528 : decode cL_law 528 = .ok (.invokevirtual 63, 3) := by decide +kernel
theorem dL_law_531 : decode cL_law 531 = .ok (.if_icmp .eq 681, 3) := by decide +kernel
theorem dL_law_534 : decode cL_law 534 = .ok (.iconst 0, 1) := by decide +kernel
theorem dL_law_535 : decode cL_law 535 = .ok (.ireturn, 1) := by decide +kernel
theorem dL_law_536 : decode cL_law 536 = .ok (.aload_n 1, 1) := by decide +kernel
theorem dL_law_537 : decode cL_law 537 = .ok (.aload_n 0, 1) := by decide +kernel
theorem dL_law_538 : decode cL_law 538 = .ok (.iload_n 3, 1) := by decide +kernel
theorem dL_law_539 : decode cL_law 539 = .ok (.iconst 1, 1) := by decide +kernel
theorem dL_law_540 : decode cL_law 540 = .ok (.iadd, 1) := by decide +kernel
theorem dL_law_541 : decode cL_law 541 = .ok (.iaload, 1) := by decide +kernel
theorem dL_law_542 : decode cL_law 542 = .ok (.invokevirtual 64, 3) := by decide +kernel
theorem dL_law_545 : decode cL_law 545 = .ok (.aload_n 2, 1) := by decide +kernel
theorem dL_law_546 : decode cL_law 546 = .ok (.aload_n 0, 1) := by decide +kernel
theorem dL_law_547 : decode cL_law 547 = .ok (.iload_n 3, 1) := by decide +kernel
theorem dL_law_548 : decode cL_law 548 = .ok (.iconst 1, 1) := by decide +kernel
theorem dL_law_549 : decode cL_law 549 = .ok (.iadd, 1) := by decide +kernel
theorem dL_law_550 : decode cL_law 550 = .ok (.iaload, 1) := by decide +kernel
theorem dL_law_551 : decode cL_law 551 = .ok (.invokevirtual 67, 3) := by decide +kernel
theorem dL_law_554 : decode cL_law 554 = .ok (.if_icmp .eq 658, 3) := by decide +kernel
theorem dL_law_557 : decode cL_law 557 = .ok (.iconst 0, 1) := by decide +kernel
theorem dL_law_558 : decode cL_law 558 = .ok (.ireturn, 1) := by decide +kernel
theorem dL_law_559 : decode cL_law 559 = .ok (.aload_n 1, 1) := by decide +kernel
theorem dL_law_560 : decode cL_law 560 = .ok (.aload_n 0, 1) := by decide +kernel
theorem dL_law_561 : decode cL_law 561 = .ok (.iload_n 3, 1) := by decide +kernel
theorem dL_law_562 : decode cL_law 562 = .ok (.iconst 1, 1) := by decide +kernel
theorem dL_law_563 : decode cL_law 563 = .ok (.iadd, 1) := by decide +kernel
theorem dL_law_564 : decode cL_law 564 = .ok (.iaload, 1) := by decide +kernel
theorem dL_law_565 : decode cL_law 565 = .ok (.invokevirtual 68, 3) := by decide +kernel
theorem dL_law_568 : decode cL_law 568 = .ok (.aload_n 2, 1) := by decide +kernel
theorem dL_law_569 : decode cL_law 569 = .ok (.aload_n 0, 1) := by decide +kernel
theorem dL_law_570 : decode cL_law 570 = .ok (.iload_n 3, 1) := by decide +kernel
theorem dL_law_571 : decode cL_law 571 = .ok (.iconst 1, 1) := by decide +kernel
theorem dL_law_572 : decode cL_law 572 = .ok (.iadd, 1) := by decide +kernel
theorem dL_law_573 : decode cL_law 573 = .ok (.iaload, 1) := by decide +kernel
theorem dL_law_574 : decode cL_law 574 = .ok (.invokevirtual 71, 3) := by decide +kernel
theorem dL_law_577 : decode cL_law 577 = .ok (.if_icmp .eq 635, 3) := by decide +kernel
theorem dL_law_580 : decode cL_law 580 = .ok (.iconst 0, 1) := by decide +kernel
theorem dL_law_581 : decode cL_law 581 = .ok (.ireturn, 1) := by decide +kernel
theorem dL_law_582 : decode cL_law 582 = .ok (.aload_n 1, 1) := by decide +kernel
theorem dL_law_583 : decode cL_law 583 = .ok (.aload_n 0, 1) := by decide +kernel
theorem dL_law_584 : decode cL_law 584 = .ok (.iload_n 3, 1) := by decide +kernel
theorem dL_law_585 : decode cL_law 585 = .ok (.iconst 1, 1) := by decide +kernel
theorem dL_law_586 : decode cL_law 586 = .ok (.iadd, 1) := by decide +kernel
theorem dL_law_587 : decode cL_law 587 = .ok (.iaload, 1) := by decide +kernel
theorem dL_law_588 : decode cL_law 588 = .ok (.aload_n 0, 1) := by decide +kernel
theorem dL_law_589 : decode cL_law 589 = .ok (.iload_n 3, 1) := by decide +kernel
theorem dL_law_590 : decode cL_law 590 = .ok (.iconst 2, 1) := by decide +kernel
theorem dL_law_591 : decode cL_law 591 = .ok (.iadd, 1) := by decide +kernel
theorem dL_law_592 : decode cL_law 592 = .ok (.iaload, 1) := by decide +kernel
theorem dL_law_593 : decode cL_law 593 = .ok (.invokevirtual 72, 3) := by decide +kernel
theorem dL_law_596 : decode cL_law 596 = .ok (.aload_n 2, 1) := by decide +kernel
theorem dL_law_597 : decode cL_law 597 = .ok (.aload_n 0, 1) := by decide +kernel
theorem dL_law_598 : decode cL_law 598 = .ok (.iload_n 3, 1) := by decide +kernel
theorem dL_law_599 : decode cL_law 599 = .ok (.iconst 1, 1) := by decide +kernel
theorem dL_law_600 : decode cL_law 600 = .ok (.iadd, 1) := by decide +kernel
theorem dL_law_601 : decode cL_law 601 = .ok (.iaload, 1) := by decide +kernel
theorem dL_law_602 : decode cL_law 602 = .ok (.aload_n 0, 1) := by decide +kernel
theorem dL_law_603 : decode cL_law 603 = .ok (.iload_n 3, 1) := by decide +kernel
theorem dL_law_604 : decode cL_law 604 = .ok (.iconst 2, 1) := by decide +kernel
theorem dL_law_605 : decode cL_law 605 = .ok (.iadd, 1) := by decide +kernel
theorem dL_law_606 : decode cL_law 606 = .ok (.iaload, 1) := by decide +kernel
theorem dL_law_607 : decode cL_law 607 = .ok (.invokevirtual 75, 3) := by decide +kernel
theorem dL_law_610 : decode cL_law 610 = .ok (.if_icmp .eq 602, 3) := by decide +kernel
theorem dL_law_613 : decode cL_law 613 = .ok (.iconst 0, 1) := by decide +kernel
theorem dL_law_614 : decode cL_law 614 = .ok (.ireturn, 1) := by decide +kernel
theorem dL_law_615 : decode cL_law 615 = .ok (.aload_n 1, 1) := by decide +kernel
theorem dL_law_616 : decode cL_law 616 = .ok (.aload_n 0, 1) := by decide +kernel
theorem dL_law_617 : decode cL_law 617 = .ok (.iload_n 3, 1) := by decide +kernel
theorem dL_law_618 : decode cL_law 618 = .ok (.iconst 1, 1) := by decide +kernel
theorem dL_law_619 : decode cL_law 619 = .ok (.iadd, 1) := by decide +kernel
theorem dL_law_620 : decode cL_law 620 = .ok (.iaload, 1) := by decide +kernel
theorem dL_law_621 : decode cL_law 621 = .ok (.aload_n 0, 1) := by decide +kernel
theorem dL_law_622 : decode cL_law 622 = .ok (.iload_n 3, 1) := by decide +kernel
theorem dL_law_623 : decode cL_law 623 = .ok (.iconst 2, 1) := by decide +kernel
theorem dL_law_624 : decode cL_law 624 = .ok (.iadd, 1) := by decide +kernel
theorem dL_law_625 : decode cL_law 625 = .ok (.iaload, 1) := by decide +kernel
theorem dL_law_626 : decode cL_law 626 = .ok (.invokevirtual 76, 3) := by decide +kernel
theorem dL_law_629 : decode cL_law 629 = .ok (.aload_n 2, 1) := by decide +kernel
theorem dL_law_630 : decode cL_law 630 = .ok (.aload_n 0, 1) := by decide +kernel
theorem dL_law_631 : decode cL_law 631 = .ok (.iload_n 3, 1) := by decide +kernel
theorem dL_law_632 : decode cL_law 632 = .ok (.iconst 1, 1) := by decide +kernel
theorem dL_law_633 : decode cL_law 633 = .ok (.iadd, 1) := by decide +kernel
theorem dL_law_634 : decode cL_law 634 = .ok (.iaload, 1) := by decide +kernel
theorem dL_law_635 : decode cL_law 635 = .ok (.aload_n 0, 1) := by decide +kernel
theorem dL_law_636 : decode cL_law 636 = .ok (.iload_n 3, 1) := by decide +kernel
theorem dL_law_637 : decode cL_law 637 = .ok (.iconst 2, 1) := by decide +kernel
theorem dL_law_638 : decode cL_law 638 = .ok (.iadd, 1) := by decide +kernel
theorem dL_law_639 : decode cL_law 639 = .ok (.iaload, 1) := by decide +kernel
theorem dL_law_640 : decode cL_law 640 = .ok (.invokevirtual 79, 3) := by decide +kernel
theorem dL_law_643 : decode cL_law 643 = .ok (.if_icmp .eq 569, 3) := by decide +kernel
theorem dL_law_646 : decode cL_law 646 = .ok (.iconst 0, 1) := by decide +kernel
theorem dL_law_647 : decode cL_law 647 = .ok (.ireturn, 1) := by decide +kernel
theorem dL_law_648 : decode cL_law 648 = .ok (.aload_n 1, 1) := by decide +kernel
theorem dL_law_649 : decode cL_law 649 = .ok (.aload_n 0, 1) := by decide +kernel
theorem dL_law_650 : decode cL_law 650 = .ok (.iload_n 3, 1) := by decide +kernel
theorem dL_law_651 : decode cL_law 651 = .ok (.iconst 1, 1) := by decide +kernel
theorem dL_law_652 : decode cL_law 652 = .ok (.iadd, 1) := by decide +kernel
theorem dL_law_653 : decode cL_law 653 = .ok (.iaload, 1) := by decide +kernel
theorem dL_law_654 : decode cL_law 654 = .ok (.aload_n 0, 1) := by decide +kernel
theorem dL_law_655 : decode cL_law 655 = .ok (.iload_n 3, 1) := by decide +kernel
theorem dL_law_656 : decode cL_law 656 = .ok (.iconst 2, 1) := by decide +kernel
theorem dL_law_657 : decode cL_law 657 = .ok (.iadd, 1) := by decide +kernel
theorem dL_law_658 : decode cL_law 658 = .ok (.iaload, 1) := by decide +kernel
theorem dL_law_659 : decode cL_law 659 = .ok (.invokevirtual 80, 3) := by decide +kernel
theorem dL_law_662 : decode cL_law 662 = .ok (.aload_n 2, 1) := by decide +kernel
theorem dL_law_663 : decode cL_law 663 = .ok (.aload_n 0, 1) := by decide +kernel
theorem dL_law_664 : decode cL_law 664 = .ok (.iload_n 3, 1) := by decide +kernel
theorem dL_law_665 : decode cL_law 665 = .ok (.iconst 1, 1) := by decide +kernel
theorem dL_law_666 : decode cL_law 666 = .ok (.iadd, 1) := by decide +kernel
theorem dL_law_667 : decode cL_law 667 = .ok (.iaload, 1) := by decide +kernel
theorem dL_law_668 : decode cL_law 668 = .ok (.aload_n 0, 1) := by decide +kernel
theorem dL_law_669 : decode cL_law 669 = .ok (.iload_n 3, 1) := by decide +kernel
theorem dL_law_670 : decode cL_law 670 = .ok (.iconst 2, 1) := by decide +kernel
theorem dL_law_671 : decode cL_law 671 = .ok (.iadd, 1) := by decide +kernel
theorem dL_law_672 : decode cL_law 672 = .ok (.iaload, 1) := by decide +kernel
theorem dL_law_673 : decode cL_law 673 = .ok (.invokevirtual 84, 3) := by decide +kernel
theorem dL_law_676 : decode cL_law 676 = .ok (.lcmp, 1) := by decide +kernel
theorem dL_law_677 : decode cL_law 677 = .ok (.ifCond .eq 535, 3) := by decide +kernel
theorem dL_law_680 : decode cL_law 680 = .ok (.iconst 0, 1) := by decide +kernel
theorem dL_law_681 : decode cL_law 681 = .ok (.ireturn, 1) := by decide +kernel
theorem dL_law_682 : decode cL_law 682 = .ok (.aload_n 1, 1) := by decide +kernel
theorem dL_law_683 : decode cL_law 683 = .ok (.aload_n 0, 1) := by decide +kernel
theorem dL_law_684 : decode cL_law 684 = .ok (.iload_n 3, 1) := by decide +kernel
theorem dL_law_685 : decode cL_law 685 = .ok (.iconst 1, 1) := by decide +kernel
theorem dL_law_686 : decode cL_law 686 = .ok (.iadd, 1) := by decide +kernel
theorem dL_law_687 : decode cL_law 687 = .ok (.iaload, 1) := by decide +kernel
theorem dL_law_688 : decode cL_law 688 = .ok (.aload_n 0, 1) := by decide +kernel
theorem dL_law_689 : decode cL_law 689 = .ok (.iload_n 3, 1) := by decide +kernel
theorem dL_law_690 : decode cL_law 690 = .ok (.iconst 2, 1) := by decide +kernel
theorem dL_law_691 : decode cL_law 691 = .ok (.iadd, 1) := by decide +kernel
theorem dL_law_692 : decode cL_law 692 = .ok (.iaload, 1) := by decide +kernel
theorem dL_law_693 : decode cL_law 693 = .ok (.aload_n 0, 1) := by decide +kernel
theorem dL_law_694 : decode cL_law 694 = .ok (.iload_n 3, 1) := by decide +kernel
theorem dL_law_695 : decode cL_law 695 = .ok (.iconst 3, 1) := by decide +kernel
theorem dL_law_696 : decode cL_law 696 = .ok (.iadd, 1) := by decide +kernel
theorem dL_law_697 : decode cL_law 697 = .ok (.iaload, 1) := by decide +kernel
theorem dL_law_698 : decode cL_law 698 = .ok (.aload_n 0, 1) := by decide +kernel
theorem dL_law_699 : decode cL_law 699 = .ok (.iload_n 3, 1) := by decide +kernel
theorem dL_law_700 : decode cL_law 700 = .ok (.iconst 4, 1) := by decide +kernel
theorem dL_law_701 : decode cL_law 701 = .ok (.iadd, 1) := by decide +kernel
theorem dL_law_702 : decode cL_law 702 = .ok (.iaload, 1) := by decide +kernel
theorem dL_law_703 : decode cL_law 703 = .ok (.aload_n 0, 1) := by decide +kernel
theorem dL_law_704 : decode cL_law 704 = .ok (.iload_n 3, 1) := by decide +kernel
theorem dL_law_705 : decode cL_law 705 = .ok (.iconst 5, 1) := by decide +kernel
theorem dL_law_706 : decode cL_law 706 = .ok (.iadd, 1) := by decide +kernel
theorem dL_law_707 : decode cL_law 707 = .ok (.iaload, 1) := by decide +kernel
theorem dL_law_708 : decode cL_law 708 = .ok (.invokevirtual 85, 3) := by decide +kernel
theorem dL_law_711 : decode cL_law 711 = .ok (.aload_n 2, 1) := by decide +kernel
theorem dL_law_712 : decode cL_law 712 = .ok (.aload_n 0, 1) := by decide +kernel
theorem dL_law_713 : decode cL_law 713 = .ok (.iload_n 3, 1) := by decide +kernel
theorem dL_law_714 : decode cL_law 714 = .ok (.iconst 1, 1) := by decide +kernel
theorem dL_law_715 : decode cL_law 715 = .ok (.iadd, 1) := by decide +kernel
theorem dL_law_716 : decode cL_law 716 = .ok (.iaload, 1) := by decide +kernel
theorem dL_law_717 : decode cL_law 717 = .ok (.aload_n 0, 1) := by decide +kernel
theorem dL_law_718 : decode cL_law 718 = .ok (.iload_n 3, 1) := by decide +kernel
theorem dL_law_719 : decode cL_law 719 = .ok (.iconst 2, 1) := by decide +kernel
theorem dL_law_720 : decode cL_law 720 = .ok (.iadd, 1) := by decide +kernel
theorem dL_law_721 : decode cL_law 721 = .ok (.iaload, 1) := by decide +kernel
theorem dL_law_722 : decode cL_law 722 = .ok (.aload_n 0, 1) := by decide +kernel
theorem dL_law_723 : decode cL_law 723 = .ok (.iload_n 3, 1) := by decide +kernel
theorem dL_law_724 : decode cL_law 724 = .ok (.iconst 3, 1) := by decide +kernel
theorem dL_law_725 : decode cL_law 725 = .ok (.iadd, 1) := by decide +kernel
theorem dL_law_726 : decode cL_law 726 = .ok (.iaload, 1) := by decide +kernel
theorem dL_law_727 : decode cL_law 727 = .ok (.aload_n 0, 1) := by decide +kernel
theorem dL_law_728 : decode cL_law 728 = .ok (.iload_n 3, 1) := by decide +kernel
theorem dL_law_729 : decode cL_law 729 = .ok (.iconst 4, 1) := by decide +kernel
theorem dL_law_730 : decode cL_law 730 = .ok (.iadd, 1) := by decide +kernel
theorem dL_law_731 : decode cL_law 731 = .ok (.iaload, 1) := by decide +kernel
theorem dL_law_732 : decode cL_law 732 = .ok (.aload_n 0, 1) := by decide +kernel
theorem dL_law_733 : decode cL_law 733 = .ok (.iload_n 3, 1) := by decide +kernel
theorem dL_law_734 : decode cL_law 734 = .ok (.iconst 5, 1) := by decide +kernel
theorem dL_law_735 : decode cL_law 735 = .ok (.iadd, 1) := by decide +kernel
theorem dL_law_736 : decode cL_law 736 = .ok (.iaload, 1) := by decide +kernel
theorem dL_law_737 : decode cL_law 737 = .ok (.invokevirtual 89, 3) := by decide +kernel
theorem dL_law_740 : decode cL_law 740 = .ok (.lcmp, 1) := by decide +kernel
theorem dL_law_741 : decode cL_law 741 = .ok (.ifCond .eq 471, 3) := by decide +kernel
theorem dL_law_744 : decode cL_law 744 = .ok (.iconst 0, 1) := by decide +kernel
theorem dL_law_745 : decode cL_law 745 = .ok (.ireturn, 1) := by decide +kernel
theorem dL_law_746 : decode cL_law 746 = .ok (.aload_n 1, 1) := by decide +kernel
theorem dL_law_747 : decode cL_law 747 = .ok (.aload_n 0, 1) := by decide +kernel
theorem dL_law_748 : decode cL_law 748 = .ok (.iload_n 3, 1) := by decide +kernel
theorem dL_law_749 : decode cL_law 749 = .ok (.iconst 1, 1) := by decide +kernel
theorem dL_law_750 : decode cL_law 750 = .ok (.iadd, 1) := by decide +kernel
theorem dL_law_751 : decode cL_law 751 = .ok (.iaload, 1) := by decide +kernel
theorem dL_law_752 : decode cL_law 752 = .ok (.aload_n 0, 1) := by decide +kernel
theorem dL_law_753 : decode cL_law 753 = .ok (.iload_n 3, 1) := by decide +kernel
theorem dL_law_754 : decode cL_law 754 = .ok (.iconst 2, 1) := by decide +kernel
theorem dL_law_755 : decode cL_law 755 = .ok (.iadd, 1) := by decide +kernel
theorem dL_law_756 : decode cL_law 756 = .ok (.iaload, 1) := by decide +kernel
theorem dL_law_757 : decode cL_law 757 = .ok (.invokevirtual 90, 3) := by decide +kernel
theorem dL_law_760 : decode cL_law 760 = .ok (.aload_n 2, 1) := by decide +kernel
theorem dL_law_761 : decode cL_law 761 = .ok (.aload_n 0, 1) := by decide +kernel
theorem dL_law_762 : decode cL_law 762 = .ok (.iload_n 3, 1) := by decide +kernel
theorem dL_law_763 : decode cL_law 763 = .ok (.iconst 1, 1) := by decide +kernel
theorem dL_law_764 : decode cL_law 764 = .ok (.iadd, 1) := by decide +kernel
theorem dL_law_765 : decode cL_law 765 = .ok (.iaload, 1) := by decide +kernel
theorem dL_law_766 : decode cL_law 766 = .ok (.aload_n 0, 1) := by decide +kernel
theorem dL_law_767 : decode cL_law 767 = .ok (.iload_n 3, 1) := by decide +kernel
theorem dL_law_768 : decode cL_law 768 = .ok (.iconst 2, 1) := by decide +kernel
theorem dL_law_769 : decode cL_law 769 = .ok (.iadd, 1) := by decide +kernel
theorem dL_law_770 : decode cL_law 770 = .ok (.iaload, 1) := by decide +kernel
theorem dL_law_771 : decode cL_law 771 = .ok (.invokevirtual 93, 3) := by decide +kernel
theorem dL_law_774 : decode cL_law 774 = .ok (.if_icmp .eq 438, 3) := by decide +kernel
theorem dL_law_777 : decode cL_law 777 = .ok (.iconst 0, 1) := by decide +kernel
theorem dL_law_778 : decode cL_law 778 = .ok (.ireturn, 1) := by decide +kernel
theorem dL_law_779 : decode cL_law 779 = .ok (.aload_n 1, 1) := by decide +kernel
theorem dL_law_780 : decode cL_law 780 = .ok (.aload_n 0, 1) := by decide +kernel
theorem dL_law_781 : decode cL_law 781 = .ok (.iload_n 3, 1) := by decide +kernel
theorem dL_law_782 : decode cL_law 782 = .ok (.iconst 1, 1) := by decide +kernel
theorem dL_law_783 : decode cL_law 783 = .ok (.iadd, 1) := by decide +kernel
theorem dL_law_784 : decode cL_law 784 = .ok (.iaload, 1) := by decide +kernel
theorem dL_law_785 : decode cL_law 785 = .ok (.invokevirtual 94, 3) := by decide +kernel
theorem dL_law_788 : decode cL_law 788 = .ok (.aload_n 2, 1) := by decide +kernel
theorem dL_law_789 : decode cL_law 789 = .ok (.aload_n 0, 1) := by decide +kernel
theorem dL_law_790 : decode cL_law 790 = .ok (.iload_n 3, 1) := by decide +kernel
theorem dL_law_791 : decode cL_law 791 = .ok (.iconst 1, 1) := by decide +kernel
theorem dL_law_792 : decode cL_law 792 = .ok (.iadd, 1) := by decide +kernel
theorem dL_law_793 : decode cL_law 793 = .ok (.iaload, 1) := by decide +kernel
theorem dL_law_794 : decode cL_law 794 = .ok (.invokevirtual 97, 3) := by decide +kernel
theorem dL_law_797 : decode cL_law 797 = .ok (.if_icmp .eq 415, 3) := by decide +kernel
theorem dL_law_800 : decode cL_law 800 = .ok (.iconst 0, 1) := by decide +kernel
theorem dL_law_801 : decode cL_law 801 = .ok (.ireturn, 1) := by decide +kernel
theorem dL_law_802 : decode cL_law 802 = .ok (.aload_n 1, 1) := by decide +kernel
theorem dL_law_803 : decode cL_law 803 = .ok (.aload_n 0, 1) := by decide +kernel
theorem dL_law_804 : decode cL_law 804 = .ok (.iload_n 3, 1) := by decide +kernel
theorem dL_law_805 : decode cL_law 805 = .ok (.iconst 1, 1) := by decide +kernel
theorem dL_law_806 : decode cL_law 806 = .ok (.iadd, 1) := by decide +kernel
theorem dL_law_807 : decode cL_law 807 = .ok (.iaload, 1) := by decide +kernel
theorem dL_law_808 : decode cL_law 808 = .ok (.aload_n 0, 1) := by decide +kernel
theorem dL_law_809 : decode cL_law 809 = .ok (.iload_n 3, 1) := by decide +kernel
theorem dL_law_810 : decode cL_law 810 = .ok (.iconst 2, 1) := by decide +kernel
theorem dL_law_811 : decode cL_law 811 = .ok (.iadd, 1) := by decide +kernel
theorem dL_law_812 : decode cL_law 812 = .ok (.iaload, 1) := by decide +kernel
theorem dL_law_813 : decode cL_law 813 = .ok (.invokevirtual 98, 3) := by decide +kernel
theorem dL_law_816 : decode cL_law 816 = .ok (.aload_n 2, 1) := by decide +kernel
theorem dL_law_817 : decode cL_law 817 = .ok (.aload_n 0, 1) := by decide +kernel
theorem dL_law_818 : decode cL_law 818 = .ok (.iload_n 3, 1) := by decide +kernel
theorem dL_law_819 : decode cL_law 819 = .ok (.iconst 1, 1) := by decide +kernel
theorem dL_law_820 : decode cL_law 820 = .ok (.iadd, 1) := by decide +kernel
theorem dL_law_821 : decode cL_law 821 = .ok (.iaload, 1) := by decide +kernel
theorem dL_law_822 : decode cL_law 822 = .ok (.aload_n 0, 1) := by decide +kernel
theorem dL_law_823 : decode cL_law 823 = .ok (.iload_n 3, 1) := by decide +kernel
theorem dL_law_824 : decode cL_law 824 = .ok (.iconst 2, 1) := by decide +kernel
theorem dL_law_825 : decode cL_law 825 = .ok (.iadd, 1) := by decide +kernel
theorem dL_law_826 : decode cL_law 826 = .ok (.iaload, 1) := by decide +kernel
theorem dL_law_827 : decode cL_law 827 = .ok (.invokevirtual 101, 3) := by decide +kernel
theorem dL_law_830 : decode cL_law 830 = .ok (.if_icmp .eq 382, 3) := by decide +kernel
theorem dL_law_833 : decode cL_law 833 = .ok (.iconst 0, 1) := by decide +kernel
theorem dL_law_834 : decode cL_law 834 = .ok (.ireturn, 1) := by decide +kernel
theorem dL_law_835 : decode cL_law 835 = .ok (.aload_n 1, 1) := by decide +kernel
theorem dL_law_836 : decode cL_law 836 = .ok (.aload_n 0, 1) := by decide +kernel
theorem dL_law_837 : decode cL_law 837 = .ok (.iload_n 3, 1) := by decide +kernel
theorem dL_law_838 : decode cL_law 838 = .ok (.iconst 1, 1) := by decide +kernel
theorem dL_law_839 : decode cL_law 839 = .ok (.iadd, 1) := by decide +kernel
theorem dL_law_840 : decode cL_law 840 = .ok (.iaload, 1) := by decide +kernel
theorem dL_law_841 : decode cL_law 841 = .ok (.aload_n 0, 1) := by decide +kernel
theorem dL_law_842 : decode cL_law 842 = .ok (.iload_n 3, 1) := by decide +kernel
theorem dL_law_843 : decode cL_law 843 = .ok (.iconst 2, 1) := by decide +kernel
theorem dL_law_844 : decode cL_law 844 = .ok (.iadd, 1) := by decide +kernel
theorem dL_law_845 : decode cL_law 845 = .ok (.iaload, 1) := by decide +kernel
theorem dL_law_846 : decode cL_law 846 = .ok (.invokevirtual 102, 3) := by decide +kernel
theorem dL_law_849 : decode cL_law 849 = .ok (.aload_n 2, 1) := by decide +kernel
theorem dL_law_850 : decode cL_law 850 = .ok (.aload_n 0, 1) := by decide +kernel
theorem dL_law_851 : decode cL_law 851 = .ok (.iload_n 3, 1) := by decide +kernel
theorem dL_law_852 : decode cL_law 852 = .ok (.iconst 1, 1) := by decide +kernel
theorem dL_law_853 : decode cL_law 853 = .ok (.iadd, 1) := by decide +kernel
theorem dL_law_854 : decode cL_law 854 = .ok (.iaload, 1) := by decide +kernel
theorem dL_law_855 : decode cL_law 855 = .ok (.aload_n 0, 1) := by decide +kernel
theorem dL_law_856 : decode cL_law 856 = .ok (.iload_n 3, 1) := by decide +kernel
theorem dL_law_857 : decode cL_law 857 = .ok (.iconst 2, 1) := by decide +kernel
theorem dL_law_858 : decode cL_law 858 = .ok (.iadd, 1) := by decide +kernel
theorem dL_law_859 : decode cL_law 859 = .ok (.iaload, 1) := by decide +kernel
theorem dL_law_860 : decode cL_law 860 = .ok (.invokevirtual 105, 3) := by decide +kernel
theorem dL_law_863 : decode cL_law 863 = .ok (.if_icmp .eq 349, 3) := by decide +kernel
theorem dL_law_866 : decode cL_law 866 = .ok (.iconst 0, 1) := by decide +kernel
theorem dL_law_867 : decode cL_law 867 = .ok (.ireturn, 1) := by decide +kernel
theorem dL_law_868 : decode cL_law 868 = .ok (.aload_n 1, 1) := by decide +kernel
theorem dL_law_869 : decode cL_law 869 = .ok (.aload_n 0, 1) := by decide +kernel
theorem dL_law_870 : decode cL_law 870 = .ok (.iload_n 3, 1) := by decide +kernel
theorem dL_law_871 : decode cL_law 871 = .ok (.iconst 1, 1) := by decide +kernel
theorem dL_law_872 : decode cL_law 872 = .ok (.iadd, 1) := by decide +kernel
theorem dL_law_873 : decode cL_law 873 = .ok (.iaload, 1) := by decide +kernel
theorem dL_law_874 : decode cL_law 874 = .ok (.aload_n 0, 1) := by decide +kernel
theorem dL_law_875 : decode cL_law 875 = .ok (.iload_n 3, 1) := by decide +kernel
theorem dL_law_876 : decode cL_law 876 = .ok (.iconst 2, 1) := by decide +kernel
theorem dL_law_877 : decode cL_law 877 = .ok (.iadd, 1) := by decide +kernel
theorem dL_law_878 : decode cL_law 878 = .ok (.iaload, 1) := by decide +kernel
theorem dL_law_879 : decode cL_law 879 = .ok (.aload_n 0, 1) := by decide +kernel
theorem dL_law_880 : decode cL_law 880 = .ok (.iload_n 3, 1) := by decide +kernel
theorem dL_law_881 : decode cL_law 881 = .ok (.iconst 3, 1) := by decide +kernel
theorem dL_law_882 : decode cL_law 882 = .ok (.iadd, 1) := by decide +kernel
theorem dL_law_883 : decode cL_law 883 = .ok (.iaload, 1) := by decide +kernel
theorem dL_law_884 : decode cL_law 884 = .ok (.invokevirtual 106, 3) := by decide +kernel
theorem dL_law_887 : decode cL_law 887 = .ok (.aload_n 2, 1) := by decide +kernel
theorem dL_law_888 : decode cL_law 888 = .ok (.aload_n 0, 1) := by decide +kernel
theorem dL_law_889 : decode cL_law 889 = .ok (.iload_n 3, 1) := by decide +kernel
theorem dL_law_890 : decode cL_law 890 = .ok (.iconst 1, 1) := by decide +kernel
theorem dL_law_891 : decode cL_law 891 = .ok (.iadd, 1) := by decide +kernel
theorem dL_law_892 : decode cL_law 892 = .ok (.iaload, 1) := by decide +kernel
theorem dL_law_893 : decode cL_law 893 = .ok (.aload_n 0, 1) := by decide +kernel
theorem dL_law_894 : decode cL_law 894 = .ok (.iload_n 3, 1) := by decide +kernel
theorem dL_law_895 : decode cL_law 895 = .ok (.iconst 2, 1) := by decide +kernel
theorem dL_law_896 : decode cL_law 896 = .ok (.iadd, 1) := by decide +kernel
theorem dL_law_897 : decode cL_law 897 = .ok (.iaload, 1) := by decide +kernel
theorem dL_law_898 : decode cL_law 898 = .ok (.aload_n 0, 1) := by decide +kernel
theorem dL_law_899 : decode cL_law 899 = .ok (.iload_n 3, 1) := by decide +kernel
theorem dL_law_900 : decode cL_law 900 = .ok (.iconst 3, 1) := by decide +kernel
theorem dL_law_901 : decode cL_law 901 = .ok (.iadd, 1) := by decide +kernel
theorem dL_law_902 : decode cL_law 902 = .ok (.iaload, 1) := by decide +kernel
theorem dL_law_903 : decode cL_law 903 = .ok (.invokevirtual 110, 3) := by decide +kernel
theorem dL_law_906 : decode cL_law 906 = .ok (.if_icmp .eq 306, 3) := by decide +kernel
theorem dL_law_909 : decode cL_law 909 = .ok (.iconst 0, 1) := by decide +kernel
theorem dL_law_910 : decode cL_law 910 = .ok (.ireturn, 1) := by decide +kernel
theorem dL_law_911 : decode cL_law 911 = .ok (.aload_n 1, 1) := by decide +kernel
theorem dL_law_912 : decode cL_law 912 = .ok (.aload_n 0, 1) := by decide +kernel
theorem dL_law_913 : decode cL_law 913 = .ok (.iload_n 3, 1) := by decide +kernel
theorem dL_law_914 : decode cL_law 914 = .ok (.iconst 1, 1) := by decide +kernel
theorem dL_law_915 : decode cL_law 915 = .ok (.iadd, 1) := by decide +kernel
theorem dL_law_916 : decode cL_law 916 = .ok (.iaload, 1) := by decide +kernel
theorem dL_law_917 : decode cL_law 917 = .ok (.invokevirtual 111, 3) := by decide +kernel
theorem dL_law_920 : decode cL_law 920 = .ok (.aload_n 2, 1) := by decide +kernel
theorem dL_law_921 : decode cL_law 921 = .ok (.aload_n 0, 1) := by decide +kernel
theorem dL_law_922 : decode cL_law 922 = .ok (.iload_n 3, 1) := by decide +kernel
theorem dL_law_923 : decode cL_law 923 = .ok (.iconst 1, 1) := by decide +kernel
theorem dL_law_924 : decode cL_law 924 = .ok (.iadd, 1) := by decide +kernel
theorem dL_law_925 : decode cL_law 925 = .ok (.iaload, 1) := by decide +kernel
theorem dL_law_926 : decode cL_law 926 = .ok (.invokevirtual 114, 3) := by decide +kernel
theorem dL_law_929 : decode cL_law 929 = .ok (.if_icmp .eq 283, 3) := by decide +kernel
theorem dL_law_932 : decode cL_law 932 = .ok (.iconst 0, 1) := by decide +kernel
theorem dL_law_933 : decode cL_law 933 = .ok (.ireturn, 1) := by decide +kernel
theorem dL_law_934 : decode cL_law 934 = .ok (.aload_n 1, 1) := by decide +kernel
theorem dL_law_935 : decode cL_law 935 = .ok (.aload_n 0, 1) := by decide +kernel
theorem dL_law_936 : decode cL_law 936 = .ok (.iload_n 3, 1) := by decide +kernel
theorem dL_law_937 : decode cL_law 937 = .ok (.iconst 1, 1) := by decide +kernel
theorem dL_law_938 : decode cL_law 938 = .ok (.iadd, 1) := by decide +kernel
theorem dL_law_939 : decode cL_law 939 = .ok (.iaload, 1) := by decide +kernel
theorem dL_law_940 : decode cL_law 940 = .ok (.aload_n 0, 1) := by decide +kernel
theorem dL_law_941 : decode cL_law 941 = .ok (.iload_n 3, 1) := by decide +kernel
theorem dL_law_942 : decode cL_law 942 = .ok (.iconst 2, 1) := by decide +kernel
theorem dL_law_943 : decode cL_law 943 = .ok (.iadd, 1) := by decide +kernel
theorem dL_law_944 : decode cL_law 944 = .ok (.iaload, 1) := by decide +kernel
theorem dL_law_945 : decode cL_law 945 = .ok (.aload_n 0, 1) := by decide +kernel
theorem dL_law_946 : decode cL_law 946 = .ok (.iload_n 3, 1) := by decide +kernel
theorem dL_law_947 : decode cL_law 947 = .ok (.iconst 3, 1) := by decide +kernel
theorem dL_law_948 : decode cL_law 948 = .ok (.iadd, 1) := by decide +kernel
theorem dL_law_949 : decode cL_law 949 = .ok (.iaload, 1) := by decide +kernel
theorem dL_law_950 : decode cL_law 950 = .ok (.invokevirtual 115, 3) := by decide +kernel
theorem dL_law_953 : decode cL_law 953 = .ok (.aload_n 2, 1) := by decide +kernel
theorem dL_law_954 : decode cL_law 954 = .ok (.aload_n 0, 1) := by decide +kernel
theorem dL_law_955 : decode cL_law 955 = .ok (.iload_n 3, 1) := by decide +kernel
theorem dL_law_956 : decode cL_law 956 = .ok (.iconst 1, 1) := by decide +kernel
theorem dL_law_957 : decode cL_law 957 = .ok (.iadd, 1) := by decide +kernel
theorem dL_law_958 : decode cL_law 958 = .ok (.iaload, 1) := by decide +kernel
theorem dL_law_959 : decode cL_law 959 = .ok (.aload_n 0, 1) := by decide +kernel
theorem dL_law_960 : decode cL_law 960 = .ok (.iload_n 3, 1) := by decide +kernel
theorem dL_law_961 : decode cL_law 961 = .ok (.iconst 2, 1) := by decide +kernel
theorem dL_law_962 : decode cL_law 962 = .ok (.iadd, 1) := by decide +kernel
theorem dL_law_963 : decode cL_law 963 = .ok (.iaload, 1) := by decide +kernel
theorem dL_law_964 : decode cL_law 964 = .ok (.aload_n 0, 1) := by decide +kernel
theorem dL_law_965 : decode cL_law 965 = .ok (.iload_n 3, 1) := by decide +kernel
theorem dL_law_966 : decode cL_law 966 = .ok (.iconst 3, 1) := by decide +kernel
theorem dL_law_967 : decode cL_law 967 = .ok (.iadd, 1) := by decide +kernel
theorem dL_law_968 : decode cL_law 968 = .ok (.iaload, 1) := by decide +kernel
theorem dL_law_969 : decode cL_law 969 = .ok (.invokevirtual 118, 3) := by decide +kernel
theorem dL_law_972 : decode cL_law 972 = .ok (.if_icmp .eq 240, 3) := by decide +kernel
theorem dL_law_975 : decode cL_law 975 = .ok (.iconst 0, 1) := by decide +kernel
theorem dL_law_976 : decode cL_law 976 = .ok (.ireturn, 1) := by decide +kernel
theorem dL_law_977 : decode cL_law 977 = .ok (.aload_n 1, 1) := by decide +kernel
theorem dL_law_978 : decode cL_law 978 = .ok (.aload_n 0, 1) := by decide +kernel
theorem dL_law_979 : decode cL_law 979 = .ok (.iload_n 3, 1) := by decide +kernel
theorem dL_law_980 : decode cL_law 980 = .ok (.iconst 1, 1) := by decide +kernel
theorem dL_law_981 : decode cL_law 981 = .ok (.iadd, 1) := by decide +kernel
theorem dL_law_982 : decode cL_law 982 = .ok (.iaload, 1) := by decide +kernel
theorem dL_law_983 : decode cL_law 983 = .ok (.aload_n 0, 1) := by decide +kernel
theorem dL_law_984 : decode cL_law 984 = .ok (.iload_n 3, 1) := by decide +kernel
theorem dL_law_985 : decode cL_law 985 = .ok (.iconst 2, 1) := by decide +kernel
theorem dL_law_986 : decode cL_law 986 = .ok (.iadd, 1) := by decide +kernel
theorem dL_law_987 : decode cL_law 987 = .ok (.iaload, 1) := by decide +kernel
theorem dL_law_988 : decode cL_law 988 = .ok (.aload_n 0, 1) := by decide +kernel
theorem dL_law_989 : decode cL_law 989 = .ok (.iload_n 3, 1) := by decide +kernel
theorem dL_law_990 : decode cL_law 990 = .ok (.iconst 3, 1) := by decide +kernel
theorem dL_law_991 : decode cL_law 991 = .ok (.iadd, 1) := by decide +kernel
theorem dL_law_992 : decode cL_law 992 = .ok (.iaload, 1) := by decide +kernel
theorem dL_law_993 : decode cL_law 993 = .ok (.invokevirtual 119, 3) := by decide +kernel
theorem dL_law_996 : decode cL_law 996 = .ok (.aload_n 2, 1) := by decide +kernel
theorem dL_law_997 : decode cL_law 997 = .ok (.aload_n 0, 1) := by decide +kernel
theorem dL_law_998 : decode cL_law 998 = .ok (.iload_n 3, 1) := by decide +kernel
theorem dL_law_999 : decode cL_law 999 = .ok (.iconst 1, 1) := by decide +kernel
theorem dL_law_1000 : decode cL_law 1000 = .ok (.iadd, 1) := by decide +kernel
theorem dL_law_1001 : decode cL_law 1001 = .ok (.iaload, 1) := by decide +kernel
theorem dL_law_1002 : decode cL_law 1002 = .ok (.aload_n 0, 1) := by decide +kernel
theorem dL_law_1003 : decode cL_law 1003 = .ok (.iload_n 3, 1) := by decide +kernel
theorem dL_law_1004 : decode cL_law 1004 = .ok (.iconst 2, 1) := by decide +kernel
theorem dL_law_1005 : decode cL_law 1005 = .ok (.iadd, 1) := by decide +kernel
theorem dL_law_1006 : decode cL_law 1006 = .ok (.iaload, 1) := by decide +kernel
theorem dL_law_1007 : decode cL_law 1007 = .ok (.aload_n 0, 1) := by decide +kernel
theorem dL_law_1008 : decode cL_law 1008 = .ok (.iload_n 3, 1) := by decide +kernel
theorem dL_law_1009 : decode cL_law 1009 = .ok (.iconst 3, 1) := by decide +kernel
theorem dL_law_1010 : decode cL_law 1010 = .ok (.iadd, 1) := by decide +kernel
theorem dL_law_1011 : decode cL_law 1011 = .ok (.iaload, 1) := by decide +kernel
theorem dL_law_1012 : decode cL_law 1012 = .ok (.invokevirtual 123, 3) := by decide +kernel
theorem dL_law_1015 : decode cL_law 1015 = .ok (.lcmp, 1) := by decide +kernel
theorem dL_law_1016 : decode cL_law 1016 = .ok (.ifCond .eq 196, 3) := by decide +kernel
theorem dL_law_1019 : decode cL_law 1019 = .ok (.iconst 0, 1) := by decide +kernel
theorem dL_law_1020 : decode cL_law 1020 = .ok (.ireturn, 1) := by decide +kernel
theorem dL_law_1021 : decode cL_law 1021 = .ok (.aload_n 1, 1) := by decide +kernel
theorem dL_law_1022 : decode cL_law 1022 = .ok (.aload_n 0, 1) := by decide +kernel
theorem dL_law_1023 : decode cL_law 1023 = .ok (.iload_n 3, 1) := by decide +kernel
theorem dL_law_1024 : decode cL_law 1024 = .ok (.iconst 1, 1) := by decide +kernel
theorem dL_law_1025 : decode cL_law 1025 = .ok (.iadd, 1) := by decide +kernel
theorem dL_law_1026 : decode cL_law 1026 = .ok (.iaload, 1) := by decide +kernel
theorem dL_law_1027 : decode cL_law 1027 = .ok (.aload_n 0, 1) := by decide +kernel
theorem dL_law_1028 : decode cL_law 1028 = .ok (.iload_n 3, 1) := by decide +kernel
theorem dL_law_1029 : decode cL_law 1029 = .ok (.iconst 2, 1) := by decide +kernel
theorem dL_law_1030 : decode cL_law 1030 = .ok (.iadd, 1) := by decide +kernel
theorem dL_law_1031 : decode cL_law 1031 = .ok (.iaload, 1) := by decide +kernel
theorem dL_law_1032 : decode cL_law 1032 = .ok (.aload_n 0, 1) := by decide +kernel
theorem dL_law_1033 : decode cL_law 1033 = .ok (.iload_n 3, 1) := by decide +kernel
theorem dL_law_1034 : decode cL_law 1034 = .ok (.iconst 3, 1) := by decide +kernel
theorem dL_law_1035 : decode cL_law 1035 = .ok (.iadd, 1) := by decide +kernel
theorem dL_law_1036 : decode cL_law 1036 = .ok (.iaload, 1) := by decide +kernel
theorem dL_law_1037 : decode cL_law 1037 = .ok (.aload_n 0, 1) := by decide +kernel
theorem dL_law_1038 : decode cL_law 1038 = .ok (.iload_n 3, 1) := by decide +kernel
theorem dL_law_1039 : decode cL_law 1039 = .ok (.iconst 4, 1) := by decide +kernel
theorem dL_law_1040 : decode cL_law 1040 = .ok (.iadd, 1) := by decide +kernel
theorem dL_law_1041 : decode cL_law 1041 = .ok (.iaload, 1) := by decide +kernel
theorem dL_law_1042 : decode cL_law 1042 = .ok (.aload_n 0, 1) := by decide +kernel
theorem dL_law_1043 : decode cL_law 1043 = .ok (.iload_n 3, 1) := by decide +kernel
theorem dL_law_1044 : decode cL_law 1044 = .ok (.iconst 5, 1) := by decide +kernel
theorem dL_law_1045 : decode cL_law 1045 = .ok (.iadd, 1) := by decide +kernel
theorem dL_law_1046 : decode cL_law 1046 = .ok (.iaload, 1) := by decide +kernel
theorem dL_law_1047 : decode cL_law 1047 = .ok (.invokevirtual 124, 3) := by decide +kernel
theorem dL_law_1050 : decode cL_law 1050 = .ok (.aload_n 2, 1) := by decide +kernel
theorem dL_law_1051 : decode cL_law 1051 = .ok (.aload_n 0, 1) := by decide +kernel
theorem dL_law_1052 : decode cL_law 1052 = .ok (.iload_n 3, 1) := by decide +kernel
theorem dL_law_1053 : decode cL_law 1053 = .ok (.iconst 1, 1) := by decide +kernel
theorem dL_law_1054 : decode cL_law 1054 = .ok (.iadd, 1) := by decide +kernel
theorem dL_law_1055 : decode cL_law 1055 = .ok (.iaload, 1) := by decide +kernel
theorem dL_law_1056 : decode cL_law 1056 = .ok (.aload_n 0, 1) := by decide +kernel
theorem dL_law_1057 : decode cL_law 1057 = .ok (.iload_n 3, 1) := by decide +kernel
theorem dL_law_1058 : decode cL_law 1058 = .ok (.iconst 2, 1) := by decide +kernel
theorem dL_law_1059 : decode cL_law 1059 = .ok (.iadd, 1) := by decide +kernel
theorem dL_law_1060 : decode cL_law 1060 = .ok (.iaload, 1) := by decide +kernel
theorem dL_law_1061 : decode cL_law 1061 = .ok (.aload_n 0, 1) := by decide +kernel
theorem dL_law_1062 : decode cL_law 1062 = .ok (.iload_n 3, 1) := by decide +kernel
theorem dL_law_1063 : decode cL_law 1063 = .ok (.iconst 3, 1) := by decide +kernel
theorem dL_law_1064 : decode cL_law 1064 = .ok (.iadd, 1) := by decide +kernel
theorem dL_law_1065 : decode cL_law 1065 = .ok (.iaload, 1) := by decide +kernel
theorem dL_law_1066 : decode cL_law 1066 = .ok (.aload_n 0, 1) := by decide +kernel
theorem dL_law_1067 : decode cL_law 1067 = .ok (.iload_n 3, 1) := by decide +kernel
theorem dL_law_1068 : decode cL_law 1068 = .ok (.iconst 4, 1) := by decide +kernel
theorem dL_law_1069 : decode cL_law 1069 = .ok (.iadd, 1) := by decide +kernel
theorem dL_law_1070 : decode cL_law 1070 = .ok (.iaload, 1) := by decide +kernel
theorem dL_law_1071 : decode cL_law 1071 = .ok (.aload_n 0, 1) := by decide +kernel
theorem dL_law_1072 : decode cL_law 1072 = .ok (.iload_n 3, 1) := by decide +kernel
theorem dL_law_1073 : decode cL_law 1073 = .ok (.iconst 5, 1) := by decide +kernel
theorem dL_law_1074 : decode cL_law 1074 = .ok (.iadd, 1) := by decide +kernel
theorem dL_law_1075 : decode cL_law 1075 = .ok (.iaload, 1) := by decide +kernel
theorem dL_law_1076 : decode cL_law 1076 = .ok (.invokevirtual 128, 3) := by decide +kernel
theorem dL_law_1079 : decode cL_law 1079 = .ok (.if_icmp .eq 133, 3) := by decide +kernel
theorem dL_law_1082 : decode cL_law 1082 = .ok (.iconst 0, 1) := by decide +kernel
theorem dL_law_1083 : decode cL_law 1083 = .ok (.ireturn, 1) := by decide +kernel
theorem dL_law_1084 : decode cL_law 1084 = .ok (.aload_n 1, 1) := by decide +kernel
theorem dL_law_1085 : decode cL_law 1085 = .ok (.aload_n 0, 1) := by decide +kernel
theorem dL_law_1086 : decode cL_law 1086 = .ok (.iload_n 3, 1) := by decide +kernel
theorem dL_law_1087 : decode cL_law 1087 = .ok (.iconst 1, 1) := by decide +kernel
theorem dL_law_1088 : decode cL_law 1088 = .ok (.iadd, 1) := by decide +kernel
theorem dL_law_1089 : decode cL_law 1089 = .ok (.iaload, 1) := by decide +kernel
theorem dL_law_1090 : decode cL_law 1090 = .ok (.invokevirtual 129, 3) := by decide +kernel
theorem dL_law_1093 : decode cL_law 1093 = .ok (.aload_n 2, 1) := by decide +kernel
theorem dL_law_1094 : decode cL_law 1094 = .ok (.aload_n 0, 1) := by decide +kernel
theorem dL_law_1095 : decode cL_law 1095 = .ok (.iload_n 3, 1) := by decide +kernel
theorem dL_law_1096 : decode cL_law 1096 = .ok (.iconst 1, 1) := by decide +kernel
theorem dL_law_1097 : decode cL_law 1097 = .ok (.iadd, 1) := by decide +kernel
theorem dL_law_1098 : decode cL_law 1098 = .ok (.iaload, 1) := by decide +kernel
theorem dL_law_1099 : decode cL_law 1099 = .ok (.invokevirtual 132, 3) := by decide +kernel
theorem dL_law_1102 : decode cL_law 1102 = .ok (.if_icmp .eq 110, 3) := by decide +kernel
theorem dL_law_1105 : decode cL_law 1105 = .ok (.iconst 0, 1) := by decide +kernel
theorem dL_law_1106 : decode cL_law 1106 = .ok (.ireturn, 1) := by decide +kernel
theorem dL_law_1107 : decode cL_law 1107 = .ok (.aload_n 1, 1) := by decide +kernel
theorem dL_law_1108 : decode cL_law 1108 = .ok (.aload_n 0, 1) := by decide +kernel
theorem dL_law_1109 : decode cL_law 1109 = .ok (.iload_n 3, 1) := by decide +kernel
theorem dL_law_1110 : decode cL_law 1110 = .ok (.iconst 1, 1) := by decide +kernel
theorem dL_law_1111 : decode cL_law 1111 = .ok (.iadd, 1) := by decide +kernel
theorem dL_law_1112 : decode cL_law 1112 = .ok (.iaload, 1) := by decide +kernel
theorem dL_law_1113 : decode cL_law 1113 = .ok (.invokevirtual 133, 3) := by decide +kernel
theorem dL_law_1116 : decode cL_law 1116 = .ok (.aload_n 2, 1) := by decide +kernel
theorem dL_law_1117 : decode cL_law 1117 = .ok (.aload_n 0, 1) := by decide +kernel
theorem dL_law_1118 : decode cL_law 1118 = .ok (.iload_n 3, 1) := by decide +kernel
theorem dL_law_1119 : decode cL_law 1119 = .ok (.iconst 1, 1) := by decide +kernel
theorem dL_law_1120 : decode cL_law 1120 = .ok (.iadd, 1) := by decide +kernel
theorem dL_law_1121 : decode cL_law 1121 = .ok (.iaload, 1) := by decide +kernel
theorem dL_law_1122 : decode cL_law 1122 = .ok (.invokevirtual 136, 3) := by decide +kernel
theorem dL_law_1125 : decode cL_law 1125 = .ok (.if_icmp .eq 87, 3) := by decide +kernel
theorem dL_law_1128 : decode cL_law 1128 = .ok (.iconst 0, 1) := by decide +kernel
theorem dL_law_1129 : decode cL_law 1129 = .ok (.ireturn, 1) := by decide +kernel
theorem dL_law_1130 : decode cL_law 1130 = .ok (.aload_n 1, 1) := by decide +kernel
theorem dL_law_1131 : decode cL_law 1131 = .ok (.aload_n 0, 1) := by decide +kernel
theorem dL_law_1132 : decode cL_law 1132 = .ok (.iload_n 3, 1) := by decide +kernel
theorem dL_law_1133 : decode cL_law 1133 = .ok (.iconst 1, 1) := by decide +kernel
theorem dL_law_1134 : decode cL_law 1134 = .ok (.iadd, 1) := by decide +kernel
theorem dL_law_1135 : decode cL_law 1135 = .ok (.iaload, 1) := by decide +kernel
theorem dL_law_1136 : decode cL_law 1136 = .ok (.aload_n 0, 1) := by decide +kernel
theorem dL_law_1137 : decode cL_law 1137 = .ok (.iload_n 3, 1) := by decide +kernel
theorem dL_law_1138 : decode cL_law 1138 = .ok (.iconst 2, 1) := by decide +kernel
theorem dL_law_1139 : decode cL_law 1139 = .ok (.iadd, 1) := by decide +kernel
theorem dL_law_1140 : decode cL_law 1140 = .ok (.iaload, 1) := by decide +kernel
theorem dL_law_1141 : decode cL_law 1141 = .ok (.invokevirtual 137, 3) := by decide +kernel
theorem dL_law_1144 : decode cL_law 1144 = .ok (.aload_n 2, 1) := by decide +kernel
theorem dL_law_1145 : decode cL_law 1145 = .ok (.aload_n 0, 1) := by decide +kernel
theorem dL_law_1146 : decode cL_law 1146 = .ok (.iload_n 3, 1) := by decide +kernel
theorem dL_law_1147 : decode cL_law 1147 = .ok (.iconst 1, 1) := by decide +kernel
theorem dL_law_1148 : decode cL_law 1148 = .ok (.iadd, 1) := by decide +kernel
theorem dL_law_1149 : decode cL_law 1149 = .ok (.iaload, 1) := by decide +kernel
theorem dL_law_1150 : decode cL_law 1150 = .ok (.aload_n 0, 1) := by decide +kernel
theorem dL_law_1151 : decode cL_law 1151 = .ok (.iload_n 3, 1) := by decide +kernel
theorem dL_law_1152 : decode cL_law 1152 = .ok (.iconst 2, 1) := by decide +kernel
theorem dL_law_1153 : decode cL_law 1153 = .ok (.iadd, 1) := by decide +kernel
theorem dL_law_1154 : decode cL_law 1154 = .ok (.iaload, 1) := by decide +kernel
theorem dL_law_1155 : decode cL_law 1155 = .ok (.invokevirtual 140, 3) := by decide +kernel
theorem dL_law_1158 : decode cL_law 1158 = .ok (.if_icmp .eq 54, 3) := by decide +kernel
theorem dL_law_1161 : decode cL_law 1161 = .ok (.iconst 0, 1) := by decide +kernel
theorem dL_law_1162 : decode cL_law 1162 = .ok (.ireturn, 1) := by decide +kernel
theorem dL_law_1163 : decode cL_law 1163 = .ok (.aload_n 1, 1) := by decide +kernel
theorem dL_law_1164 : decode cL_law 1164 = .ok (.invokevirtual 141, 3) := by decide +kernel
theorem dL_law_1167 : decode cL_law 1167 = .ok (.aload_n 2, 1) := by decide +kernel
theorem dL_law_1168 : decode cL_law 1168 = .ok (.invokevirtual 145, 3) := by decide +kernel
theorem dL_law_1171 : decode cL_law 1171 = .ok (.if_icmp .eq 41, 3) := by decide +kernel
theorem dL_law_1174 : decode cL_law 1174 = .ok (.iconst 0, 1) := by decide +kernel
theorem dL_law_1175 : decode cL_law 1175 = .ok (.ireturn, 1) := by decide +kernel
theorem dL_law_1176 : decode cL_law 1176 = .ok (.aload_n 1, 1) := by decide +kernel
theorem dL_law_1177 : decode cL_law 1177 = .ok (.invokevirtual 146, 3) := by decide +kernel
theorem dL_law_1180 : decode cL_law 1180 = .ok (.aload_n 2, 1) := by decide +kernel
theorem dL_law_1181 : decode cL_law 1181 = .ok (.invokevirtual 149, 3) := by decide +kernel
theorem dL_law_1184 : decode cL_law 1184 = .ok (.if_icmp .eq 28, 3) := by decide +kernel
theorem dL_law_1187 : decode cL_law 1187 = .ok (.iconst 0, 1) := by decide +kernel
theorem dL_law_1188 : decode cL_law 1188 = .ok (.ireturn, 1) := by decide +kernel
theorem dL_law_1189 : decode cL_law 1189 = .ok (.aload_n 1, 1) := by decide +kernel
theorem dL_law_1190 : decode cL_law 1190 = .ok (.aload_n 0, 1) := by decide +kernel
theorem dL_law_1191 : decode cL_law 1191 = .ok (.iload_n 3, 1) := by decide +kernel
theorem dL_law_1192 : decode cL_law 1192 = .ok (.iconst 1, 1) := by decide +kernel
theorem dL_law_1193 : decode cL_law 1193 = .ok (.iadd, 1) := by decide +kernel
theorem dL_law_1194 : decode cL_law 1194 = .ok (.iaload, 1) := by decide +kernel
theorem dL_law_1195 : decode cL_law 1195 = .ok (.invokevirtual 150, 3) := by decide +kernel
theorem dL_law_1198 : decode cL_law 1198 = .ok (.aload_n 2, 1) := by decide +kernel
theorem dL_law_1199 : decode cL_law 1199 = .ok (.aload_n 0, 1) := by decide +kernel
theorem dL_law_1200 : decode cL_law 1200 = .ok (.iload_n 3, 1) := by decide +kernel
theorem dL_law_1201 : decode cL_law 1201 = .ok (.iconst 1, 1) := by decide +kernel
theorem dL_law_1202 : decode cL_law 1202 = .ok (.iadd, 1) := by decide +kernel
theorem dL_law_1203 : decode cL_law 1203 = .ok (.iaload, 1) := by decide +kernel
theorem dL_law_1204 : decode cL_law 1204 = .ok (.invokevirtual 153, 3) := by decide +kernel
theorem dL_law_1207 : decode cL_law 1207 = .ok (.if_icmp .eq 5, 3) := by decide +kernel
theorem dL_law_1210 : decode cL_law 1210 = .ok (.iconst 0, 1) := by decide +kernel
theorem dL_law_1211 : decode cL_law 1211 = .ok (.ireturn, 1) := by decide +kernel
theorem dL_law_1212 : decode cL_law 1212 = .ok (.iinc 3 6, 3) := by decide +kernel
theorem dL_law_1215 : decode cL_law 1215 = .ok (.goto (-1197), 3) := by decide +kernel
theorem dL_law_1218 : decode cL_law 1218 = .ok (.iconst 1, 1) := by decide +kernel
theorem dL_law_1219 : decode cL_law 1219 = .ok (.ireturn, 1) := by decide +kernel
end
section
/-- the tables' words that hold at every call below, too -/
def lw_gt : List Cond := lw_tbl.filter goodWord
theorem gt_mem {v : Cond} (h : v ∈ lw_tbl) (hg : goodWord v = true) : v ∈ lw_gt := List.mem_filter.mpr ⟨h, hg⟩
theorem gt_good {v : Cond} (h : v ∈ lw_gt) : goodWord v = true := (List.mem_filter.mp h).2
/-! numbers: a machine int is iI of a whole number -/
def iI (z : Int) : Int32 := Int32.ofInt z
def jI (z : Int) : Int64 := Int64.ofInt z
def in32 (z : Int) : Prop := -2147483648 ≤ z ∧ z < 2147483648
theorem iI_add (a b : Int) : iI a + iI b = iI (a + b) := (Int32.ofInt_add a b).symm
theorem iI_sub (a b : Int) : iI a - iI b = iI (a - b) := (Int32.ofInt_sub a b).symm
theorem iI_mul (a b : Int) : iI a * iI b = iI (a * b) := (Int32.ofInt_mul a b).symm
theorem iI_toInt (x : Int32) : iI x.toInt = x := Int32.ofInt_toInt x
theorem iI_val {z : Int} (h1 : -2147483648 ≤ z) (h2 : z < 2147483648) : (iI z).toInt = z := Int32.toInt_ofInt_of_le h1 h2
theorem iI_rng (x : Int32) : -2147483648 ≤ x.toInt ∧ x.toInt < 2147483648 := ⟨x.le_toInt, x.toInt_lt⟩
theorem iI_lt {a b : Int} (ha : in32 a) (hb : in32 b) : iI a < iI b ↔ a < b := by
  rw [Int32.lt_iff_toInt_lt, iI_val ha.1 ha.2, iI_val hb.1 hb.2]
theorem iI_le {a b : Int} (ha : in32 a) (hb : in32 b) : iI a ≤ iI b ↔ a ≤ b := by
  rw [Int32.le_iff_toInt_le, iI_val ha.1 ha.2, iI_val hb.1 hb.2]
theorem iI_eq {a b : Int} (ha : in32 a) (hb : in32 b) : iI a = iI b ↔ a = b := by
  rw [← Int32.toInt_inj, iI_val ha.1 ha.2, iI_val hb.1 hb.2]
theorem iI_0 : (0 : Int32) = iI 0 := rfl
theorem in32_0 : in32 0 := by unfold in32; omega
theorem iI_cl {z : Int} (h1 : 0 ≤ z) (h2 : z < 2147483648) : (iI z).toNatClampNeg = z.toNat := by
  rw [← Int32.toNat_toInt, iI_val (by omega) h2]
theorem iI_in {z : Int} {n : Nat} (h1 : 0 ≤ z) (h2 : z < n) (hn : n < 2147483648) : vp_in (iI z) n := by
  rw [vp_in_iff, iI_val (by omega) (by omega)]; omega
theorem iI_div {a b : Int} (ha : in32 a) (hb : in32 b) (h : 0 < b) : iI a / iI b = iI (a.tdiv b) := by
  refine (Int32.ofInt_tdiv ?_ ?_ ?_ ?_).symm
  · exact ha.1
  · have := ha.2; exact Int.le_of_lt_add_one this
  · exact hb.1
  · have := hb.2; exact Int.le_of_lt_add_one this
/-! worlds -/
abbrev Sg : Type := (Nat → Int) × (Nat → Int → Int)
abbrev WD (σ : Type) : Type := (σ → va_W) × List Nat × va_G × List (ClassId × FieldType)
def AA (ads : List Nat) (sz : Nat) : Nat → Prop := fun q => q ∈ ads ∨ sz ≤ q
def WOK {σ : Type} (w : WD σ) : Prop := (∀ st, (w.1 st).map Prod.fst = w.2.1) ∧ ∀ (i j a : Nat), w.2.1[i]? = some a → w.2.1[j]? = some a → i = j
theorem WOK.D {σ : Type} {w : WD σ} (h : WOK w) (sz : Nat) (st : σ) : va_D (AA w.2.1 sz) (w.1 st) := by
  have e : ∀ (k : Nat) (q : Nat × va_E), (w.1 st)[k]? = some q → w.2.1[k]? = some q.1 := by
    intro k q hk
    rw [← h.1 st, List.getElem?_map, hk]; rfl
  refine ⟨?_, ?_⟩
  · intro i j p q hi hj he
    have h1 := e i p hi
    have h2 := e j q hj
    rw [← he] at h2
    exact h.2 i j _ h1 h2
  · intro k q hk
    exact Or.inl (List.mem_of_getElem? (e k q hk))
/-- what stands still through a walk -/
def KE {σ : Type} (w : WD σ) (G : Heap → List Loc → JFrame → Prop) (H0 : Heap) (m : MethodId) (cc : ByteArray) (own : String) (nL : Nat) (R : Room) : Prop :=
  ∃ (p : Program) (l : Launch) (e : Env) (s : State) (args : Array Value) (below : List Frame) (meth : Method) (c : Code) (Q : State → Prop) (cells slots : Nat),
    G = (fun H locs g => W p l e R s m args below meth c H locs cells slots Q g) ∧ H0 = s.heap ∧ p.tables.exec = Jvm.exec ∧ c.code = cc ∧ c.maxLocals = nL ∧ s.vm.findClass own = some m.cls ∧ (∀ v ∈ lw_gt, v.before args s = true) ∧ va_K w.2.2.1 vwCl w.2.2.2 s ∧ WOK w ∧ cells ≤ R.cells ∧ slots ≤ R.slots
/-- from every heap that holds the world of st: the walk from pc on -/
def KW {σ : Type} (w : WD σ) (G : Heap → List Loc → JFrame → Prop) (H0 : Heap) (m : MethodId) (nL : Nat) (st : σ) (pc : Nat) (lo : List (Nat × Value)) (sk : List Value) : Prop :=
  ∀ (H : Heap) (locs : List Loc) (ls : Array Slot), va_P w.2.2.1 vwCl (w.1 st) H → va_S (AA w.2.1 H0.size) H0 H locs → lv_has ls nL lo → G H locs (F0 m pc ls sk)
/-- the ways to return -/
def KR {σ : Type} (w : WD σ) (G : Heap → List Loc → JFrame → Prop) (H0 : Heap) (m : MethodId) (nL : Nat) (cc : ByteArray) (rt : Option FieldType) (post : Option Value → σ → Prop) : Prop :=
  (∀ (ty : FieldType) (pc : Nat) (z : Int32) (u : σ) (lo : List (Nat × Value)), rt = some ty → narrow ty (.int z) = .int z → decode cc pc = .ok (.ireturn, 1) → post (some (.int z)) u → KW w G H0 m nL u pc lo [.int z]) ∧
  (∀ (pc : Nat) (z : Int64) (u : σ) (lo : List (Nat × Value)), rt = some .long → decode cc pc = .ok (.lreturn, 1) → post (some (.long z)) u → KW w G H0 m nL u pc lo [.long z]) ∧
  (∀ (pc : Nat) (u : σ) (lo : List (Nat × Value)), rt = none → decode cc pc = .ok (.return_, 1) → post none u → KW w G H0 m nL u pc lo [])
def QQ {σ : Type} (w : WD σ) (post : Option Value → σ → Prop) (sz : Nat) : Array Value → State → Outcome → State → Prop := fun _ st oc t => (∃ (rv : Option Value) (u : σ), oc = .returned rv ∧ post rv u ∧ va_P w.2.2.1 vwCl (w.1 u) t.heap) ∧ va_F (AA w.2.1 sz) st t
/-- a contract over a world -/
def MC {σ : Type} (w : WD σ) (y : MethodName) (cc : ByteArray) (nL : Nat) (rt : Option FieldType) (R : Room) (av : List Value) (st : σ) (post : Option Value → σ → Prop) : Prop :=
  WOK w → ∀ (l : Launch) (sz : Nat), Met l y (.code y cc nL rt :: lw_gt) R (va_Pc av (fun U => U.heap.size = sz ∧ va_P w.2.2.1 vwCl (w.1 st) U.heap ∧ va_K w.2.2.1 vwCl w.2.2.2 U)) (QQ w post sz) 0 0 (AA w.2.1 sz)
set_option maxHeartbeats 4000000 in
theorem MC_intro {σ : Type} {w : WD σ} {y : MethodName} {cc : ByteArray} {nL : Nat} {rt : Option FieldType} {R : Room} {av : List Value} {st : σ} {post : Option Value → σ → Prop} (own : String) (hy : plainName y.cls = true) (hcls : y.cls = own) (hlen : (lg_sl av).length ≤ nL)
    (h : ∀ (G : Heap → List Loc → JFrame → Prop) (H0 : Heap) (m : MethodId), KE w G H0 m cc own nL R → KR w G H0 m nL cc rt post → KW w G H0 m nL st 0 (lv_args 0 av) []) : MC w y cc nL rt R av st post := by
  intro hw l sz
  refine Met.ofW (cc := cc) (maxL := nL) (ret := rt) hy rfl ?_
  intro p e s m args below meth c s₁ B hml hv
  obtain ⟨rfl, hsz, hP, hK⟩ := hv
  subst hsz
  have hts : ∀ v ∈ lw_gt, v.before av.toArray s = true := fun v hv => atoms_spec (ws := .code y cc nL rt :: lw_gt) B.pre v (List.mem_cons_of_mem _ hv)
  have hown : s.vm.findClass own = some m.cls := by rw [← hcls]; exact findClass_of_methodNamed B.named
  have hx := B.exec
  have hb := B.bytes
  have hr := B.returns
  have hlocks := B.notSynchronized
  have hl := lv_entry av (n := nL) hlen
  rw [lg_entry_eq]
  refine h (fun H locs g => W p l e R s m av.toArray below meth c H locs 0 0 (MQ below (QQ w post s.heap.size) av.toArray s 0 0 (AA w.2.1 s.heap.size)) g) s.heap m ⟨p, l, e, s, av.toArray, below, meth, c, _, 0, 0, rfl, rfl, hx, hb, hml, hown, hts, hK, hw, Nat.zero_le _, Nat.zero_le _⟩ ⟨?_, ?_, ?_⟩ s.heap [] _ hP va_S.rf hl
  · intro ty pc z u lo ht hn hd hpost H locs ls hP hS hl
    exact W.zret hx hb (by rw [hr, ht]) hn (fun t ht hW => ⟨⟨_, u, rfl, hpost, by rw [ht]; exact hP⟩, hS.F ht⟩) hS.2.2 hd hlocks
  · intro pc z u lo ht hd hpost H locs ls hP hS hl
    exact W.lret hx hb (by rw [hr, ht]) (fun t ht hW => ⟨⟨_, u, rfl, hpost, by rw [ht]; exact hP⟩, hS.F ht⟩) hS.2.2 hd hlocks
  · intro pc u lo ht hd hpost H locs ls hP hS hl
    exact W.vret hx hb (by rw [hr, ht]) (fun t ht hW => ⟨⟨_, u, rfl, hpost, by rw [ht]; exact hP⟩, hS.F ht⟩) hS.2.2 hd hlocks
theorem MC_post {σ : Type} {w : WD σ} {y : MethodName} {cc : ByteArray} {nL : Nat} {rt : Option FieldType} {R : Room} {av : List Value} {st : σ} {post post2 : Option Value → σ → Prop} (h : MC w y cc nL rt R av st post) (hp : ∀ rv u, post rv u → post2 rv u) : MC w y cc nL rt R av st post2 := by
  intro hw l sz p e ha hc hk s m args below hf happ hP hK
  obtain ⟨k, o, h1, h2, h3, hQ⟩ := h hw l sz p e ha hc hk s m args below hf happ hP hK
  obtain ⟨⟨⟨rv, u, e1, e2, e3⟩, e4⟩, e5⟩ := hQ
  exact ⟨k, o, h1, h2, h3, ⟨⟨rv, u, e1, hp _ _ e2, e3⟩, e4⟩, e5⟩
/-! rows of instructions -/
section KROWS
variable {σ : Type} {w : WD σ} {G : Heap → List Loc → JFrame → Prop} {H0 : Heap} {m : MethodId} {cc : ByteArray} {own : String} {nL : Nat} {R : Room} {st : σ} {pc : Nat} {lo lo' : List (Nat × Value)} {sk : List Value}
theorem k_st (st' : σ) (h : st = st') (k : KW w G H0 m nL st' pc lo sk) : KW w G H0 m nL st pc lo sk := h ▸ k
theorem k_sk {sk' : List Value} (h : sk = sk') (k : KW w G H0 m nL st pc lo sk') : KW w G H0 m nL st pc lo sk := h ▸ k
theorem k_lo (ks : List Nat) (h : lv_pick lo ks = lo') (k : KW w G H0 m nL st pc lo' sk) : KW w G H0 m nL st pc lo sk := fun H locs ls hP hS hl => k H locs ls hP hS (lv_sub hl ks h)
theorem k_iconst (hE : KE w G H0 m cc own nL R) {n : Int} (hd : decode cc pc = .ok (.iconst n, 1)) (k : KW w G H0 m nL st (pc + 1) lo (.int (iI n) :: sk)) : KW w G H0 m nL st pc lo sk := by
  obtain ⟨p, l, e, s, args, below, meth, c, Q, cells, slots, rfl, rfl, hx, hb, hml, hown, hts, hK, hw, hc1, hc2⟩ := hE
  exact fun H locs ls hP hS hl => lv_iconst hx hb hd rfl (k H locs ls hP hS hl)
theorem k_bipush (hE : KE w G H0 m cc own nL R) {n : Int} (hd : decode cc pc = .ok (.bipush n, 2)) (hv : (Int8.ofInt n).toInt32 = iI n) (k : KW w G H0 m nL st (pc + 2) lo (.int (iI n) :: sk)) : KW w G H0 m nL st pc lo sk := by
  obtain ⟨p, l, e, s, args, below, meth, c, Q, cells, slots, rfl, rfl, hx, hb, hml, hown, hts, hK, hw, hc1, hc2⟩ := hE
  exact fun H locs ls hP hS hl => lv_bipush hx hb hd hv (k H locs ls hP hS hl)
theorem k_sipush (hE : KE w G H0 m cc own nL R) {n : Int} (hd : decode cc pc = .ok (.sipush n, 3)) (hv : (Int16.ofInt n).toInt32 = iI n) (k : KW w G H0 m nL st (pc + 3) lo (.int (iI n) :: sk)) : KW w G H0 m nL st pc lo sk := by
  obtain ⟨p, l, e, s, args, below, meth, c, Q, cells, slots, rfl, rfl, hx, hb, hml, hown, hts, hK, hw, hc1, hc2⟩ := hE
  exact fun H locs ls hP hS hl => lv_sipush hx hb hd hv (k H locs ls hP hS hl)
theorem k_iload_n (hE : KE w G H0 m cc own nL R) {j : Fin 4} {i : Nat} {x : Int32} (hd : decode cc pc = .ok (.iload_n j, 1)) (q : Nat) (hi : (j : Nat) = i) (hq : lo[q]? = some (i, .int x)) (k : KW w G H0 m nL st (pc + 1) lo (.int x :: sk)) : KW w G H0 m nL st pc lo sk := by
  obtain ⟨p, l, e, s, args, below, meth, c, Q, cells, slots, rfl, rfl, hx, hb, hml, hown, hts, hK, hw, hc1, hc2⟩ := hE
  exact fun H locs ls hP hS hl => lv_iload_n hx hb hd hi (lv_at hl q hq) (k H locs ls hP hS hl)
theorem k_iload (hE : KE w G H0 m cc own nL R) {i : Nat} {x : Int32} (hd : decode cc pc = .ok (.iload i, 2)) (q : Nat) (hq : lo[q]? = some (i, .int x)) (k : KW w G H0 m nL st (pc + 2) lo (.int x :: sk)) : KW w G H0 m nL st pc lo sk := by
  obtain ⟨p, l, e, s, args, below, meth, c, Q, cells, slots, rfl, rfl, hx, hb, hml, hown, hts, hK, hw, hc1, hc2⟩ := hE
  exact fun H locs ls hP hS hl => lv_iload hx hb hd (lv_at hl q hq) (k H locs ls hP hS hl)
theorem k_aload_n (hE : KE w G H0 m cc own nL R) {j : Fin 4} {i : Nat} {x : Nat} (hd : decode cc pc = .ok (.aload_n j, 1)) (q : Nat) (hi : (j : Nat) = i) (hq : lo[q]? = some (i, .ref x)) (k : KW w G H0 m nL st (pc + 1) lo (.ref x :: sk)) : KW w G H0 m nL st pc lo sk := by
  obtain ⟨p, l, e, s, args, below, meth, c, Q, cells, slots, rfl, rfl, hx, hb, hml, hown, hts, hK, hw, hc1, hc2⟩ := hE
  exact fun H locs ls hP hS hl => lv_aload_n hx hb hd hi (lv_at hl q hq) (k H locs ls hP hS hl)
theorem k_aload (hE : KE w G H0 m cc own nL R) {i : Nat} {x : Nat} (hd : decode cc pc = .ok (.aload i, 2)) (q : Nat) (hq : lo[q]? = some (i, .ref x)) (k : KW w G H0 m nL st (pc + 2) lo (.ref x :: sk)) : KW w G H0 m nL st pc lo sk := by
  obtain ⟨p, l, e, s, args, below, meth, c, Q, cells, slots, rfl, rfl, hx, hb, hml, hown, hts, hK, hw, hc1, hc2⟩ := hE
  exact fun H locs ls hP hS hl => lv_aload hx hb hd (lv_at hl q hq) (k H locs ls hP hS hl)
theorem k_lload_n (hE : KE w G H0 m cc own nL R) {j : Fin 4} {i : Nat} {x : Int64} (hd : decode cc pc = .ok (.lload_n j, 1)) (q : Nat) (hi : (j : Nat) = i) (hq : lo[q]? = some (i, .long x)) (k : KW w G H0 m nL st (pc + 1) lo (.long x :: sk)) : KW w G H0 m nL st pc lo sk := by
  obtain ⟨p, l, e, s, args, below, meth, c, Q, cells, slots, rfl, rfl, hx, hb, hml, hown, hts, hK, hw, hc1, hc2⟩ := hE
  exact fun H locs ls hP hS hl => lv_lload_n hx hb hd hi (lv_at hl q hq) (k H locs ls hP hS hl)
theorem k_lload (hE : KE w G H0 m cc own nL R) {i : Nat} {x : Int64} (hd : decode cc pc = .ok (.lload i, 2)) (q : Nat) (hq : lo[q]? = some (i, .long x)) (k : KW w G H0 m nL st (pc + 2) lo (.long x :: sk)) : KW w G H0 m nL st pc lo sk := by
  obtain ⟨p, l, e, s, args, below, meth, c, Q, cells, slots, rfl, rfl, hx, hb, hml, hown, hts, hK, hw, hc1, hc2⟩ := hE
  exact fun H locs ls hP hS hl => lv_lload hx hb hd (lv_at hl q hq) (k H locs ls hP hS hl)
theorem k_istore_n (hE : KE w G H0 m cc own nL R) {j : Fin 4} {i : Nat} {x : Int32} (hd : decode cc pc = .ok (.istore_n j, 1)) (ks : List Nat) (hi : (j : Nat) = i) (hn : i < nL) (hl0 : lv_pick ((i, Value.int x) :: lo.filter (fun q => !(q.1 == i) && !(q.1 + 1 == i && q.2.category == 2))) ks = lo') (k : KW w G H0 m nL st (pc + 1) lo' sk) : KW w G H0 m nL st pc lo (.int x :: sk) := by
  obtain ⟨p, l, e, s, args, below, meth, c, Q, cells, slots, rfl, rfl, hx, hb, hml, hown, hts, hK, hw, hc1, hc2⟩ := hE
  exact fun H locs ls hP hS hl => lv_istore_n hx hb hd hi hl hn rfl (fun ls' hl' => k H locs ls' hP hS (lv_sub hl' ks hl0))
theorem k_istore (hE : KE w G H0 m cc own nL R) {i : Nat} {x : Int32} (hd : decode cc pc = .ok (.istore i, 2)) (ks : List Nat) (hn : i < nL) (hl0 : lv_pick ((i, Value.int x) :: lo.filter (fun q => !(q.1 == i) && !(q.1 + 1 == i && q.2.category == 2))) ks = lo') (k : KW w G H0 m nL st (pc + 2) lo' sk) : KW w G H0 m nL st pc lo (.int x :: sk) := by
  obtain ⟨p, l, e, s, args, below, meth, c, Q, cells, slots, rfl, rfl, hx, hb, hml, hown, hts, hK, hw, hc1, hc2⟩ := hE
  exact fun H locs ls hP hS hl => lv_istore hx hb hd hl hn rfl (fun ls' hl' => k H locs ls' hP hS (lv_sub hl' ks hl0))
theorem k_astore_n (hE : KE w G H0 m cc own nL R) {j : Fin 4} {i : Nat} {x : Nat} (hd : decode cc pc = .ok (.astore_n j, 1)) (ks : List Nat) (hi : (j : Nat) = i) (hn : i < nL) (hl0 : lv_pick ((i, Value.ref x) :: lo.filter (fun q => !(q.1 == i) && !(q.1 + 1 == i && q.2.category == 2))) ks = lo') (k : KW w G H0 m nL st (pc + 1) lo' sk) : KW w G H0 m nL st pc lo (.ref x :: sk) := by
  obtain ⟨p, l, e, s, args, below, meth, c, Q, cells, slots, rfl, rfl, hx, hb, hml, hown, hts, hK, hw, hc1, hc2⟩ := hE
  exact fun H locs ls hP hS hl => lv_astore_n hx hb hd hi hl hn rfl (fun ls' hl' => k H locs ls' hP hS (lv_sub hl' ks hl0))
theorem k_astore (hE : KE w G H0 m cc own nL R) {i : Nat} {x : Nat} (hd : decode cc pc = .ok (.astore i, 2)) (ks : List Nat) (hn : i < nL) (hl0 : lv_pick ((i, Value.ref x) :: lo.filter (fun q => !(q.1 == i) && !(q.1 + 1 == i && q.2.category == 2))) ks = lo') (k : KW w G H0 m nL st (pc + 2) lo' sk) : KW w G H0 m nL st pc lo (.ref x :: sk) := by
  obtain ⟨p, l, e, s, args, below, meth, c, Q, cells, slots, rfl, rfl, hx, hb, hml, hown, hts, hK, hw, hc1, hc2⟩ := hE
  exact fun H locs ls hP hS hl => lv_astore hx hb hd hl hn rfl (fun ls' hl' => k H locs ls' hP hS (lv_sub hl' ks hl0))
theorem k_lstore_n (hE : KE w G H0 m cc own nL R) {j : Fin 4} {i : Nat} {x : Int64} (hd : decode cc pc = .ok (.lstore_n j, 1)) (ks : List Nat) (hi : (j : Nat) = i) (hn : i + 1 < nL) (hl0 : lv_pick ((i, Value.long x) :: lo.filter (fun q => !(q.1 == i) && (!(q.1 == i + 1) && !(q.1 + 1 == i && q.2.category == 2)))) ks = lo') (k : KW w G H0 m nL st (pc + 1) lo' sk) : KW w G H0 m nL st pc lo (.long x :: sk) := by
  obtain ⟨p, l, e, s, args, below, meth, c, Q, cells, slots, rfl, rfl, hx, hb, hml, hown, hts, hK, hw, hc1, hc2⟩ := hE
  exact fun H locs ls hP hS hl => lv_lstore_n hx hb hd hi hl hn rfl (fun ls' hl' => k H locs ls' hP hS (lv_sub hl' ks hl0))
theorem k_lstore (hE : KE w G H0 m cc own nL R) {i : Nat} {x : Int64} (hd : decode cc pc = .ok (.lstore i, 2)) (ks : List Nat) (hn : i + 1 < nL) (hl0 : lv_pick ((i, Value.long x) :: lo.filter (fun q => !(q.1 == i) && (!(q.1 == i + 1) && !(q.1 + 1 == i && q.2.category == 2)))) ks = lo') (k : KW w G H0 m nL st (pc + 2) lo' sk) : KW w G H0 m nL st pc lo (.long x :: sk) := by
  obtain ⟨p, l, e, s, args, below, meth, c, Q, cells, slots, rfl, rfl, hx, hb, hml, hown, hts, hK, hw, hc1, hc2⟩ := hE
  exact fun H locs ls hP hS hl => lv_lstore hx hb hd hl hn rfl (fun ls' hl' => k H locs ls' hP hS (lv_sub hl' ks hl0))
theorem k_iinc (hE : KE w G H0 m cc own nL R) {i : Nat} {n x : Int} (hd : decode cc pc = .ok (.iinc i n, 3)) (q : Nat) (ks : List Nat) (hq : lo[q]? = some (i, .int (iI x))) (hn : i < nL) (hl0 : lv_pick ((i, Value.int (iI (x + n))) :: lo.filter (fun q => !(q.1 == i) && !(q.1 + 1 == i && q.2.category == 2))) ks = lo') (k : KW w G H0 m nL st (pc + 3) lo' sk) : KW w G H0 m nL st pc lo sk := by
  obtain ⟨p, l, e, s, args, below, meth, c, Q, cells, slots, rfl, rfl, hx, hb, hml, hown, hts, hK, hw, hc1, hc2⟩ := hE
  exact fun H locs ls hP hS hl => lv_iinc hx hb hd hl hq (iI_add x n) hn rfl (fun ls' hl' => k H locs ls' hP hS (lv_sub hl' ks hl0))
theorem k_iadd (hE : KE w G H0 m cc own nL R) {x y : Int} (hd : decode cc pc = .ok (.iadd, 1)) (k : KW w G H0 m nL st (pc + 1) lo (.int (iI (x + y)) :: sk)) : KW w G H0 m nL st pc lo (.int (iI y) :: .int (iI x) :: sk) := by
  obtain ⟨p, l, e, s, args, below, meth, c, Q, cells, slots, rfl, rfl, hx, hb, hml, hown, hts, hK, hw, hc1, hc2⟩ := hE
  exact fun H locs ls hP hS hl => lv_iadd hx hb hd (by rw [iI_add]; exact k H locs ls hP hS hl)
theorem k_isub (hE : KE w G H0 m cc own nL R) {x y : Int} (hd : decode cc pc = .ok (.isub, 1)) (k : KW w G H0 m nL st (pc + 1) lo (.int (iI (x - y)) :: sk)) : KW w G H0 m nL st pc lo (.int (iI y) :: .int (iI x) :: sk) := by
  obtain ⟨p, l, e, s, args, below, meth, c, Q, cells, slots, rfl, rfl, hx, hb, hml, hown, hts, hK, hw, hc1, hc2⟩ := hE
  exact fun H locs ls hP hS hl => lv_isub hx hb hd (by rw [iI_sub]; exact k H locs ls hP hS hl)
theorem k_imul (hE : KE w G H0 m cc own nL R) {x y : Int} (hd : decode cc pc = .ok (.imul, 1)) (k : KW w G H0 m nL st (pc + 1) lo (.int (iI (x * y)) :: sk)) : KW w G H0 m nL st pc lo (.int (iI y) :: .int (iI x) :: sk) := by
  obtain ⟨p, l, e, s, args, below, meth, c, Q, cells, slots, rfl, rfl, hx, hb, hml, hown, hts, hK, hw, hc1, hc2⟩ := hE
  exact fun H locs ls hP hS hl => lv_imul hx hb hd (by rw [iI_mul]; exact k H locs ls hP hS hl)
theorem k_idiv (hE : KE w G H0 m cc own nL R) {x y : Int} (hd : decode cc pc = .ok (.idiv, 1)) (hxr : in32 x) (hyr : in32 y) (h0 : 0 < y) (k : KW w G H0 m nL st (pc + 1) lo (.int (iI (x.tdiv y)) :: sk)) : KW w G H0 m nL st pc lo (.int (iI y) :: .int (iI x) :: sk) := by
  obtain ⟨p, l, e, s, args, below, meth, c, Q, cells, slots, rfl, rfl, hx, hb, hml, hown, hts, hK, hw, hc1, hc2⟩ := hE
  exact fun H locs ls hP hS hl => lv_idiv hx hb hd (fun h => by rw [iI_0, iI_eq hyr in32_0] at h; omega) (by rw [iI_div hxr hyr h0]; exact k H locs ls hP hS hl)
theorem k_irem (hE : KE w G H0 m cc own nL R) {x y : Int} (hd : decode cc pc = .ok (.irem, 1)) (hxr : in32 x) (hyr : in32 y) (h0 : 0 < y) (k : KW w G H0 m nL st (pc + 1) lo (.int (iI (x - x.tdiv y * y)) :: sk)) : KW w G H0 m nL st pc lo (.int (iI y) :: .int (iI x) :: sk) := by
  obtain ⟨p, l, e, s, args, below, meth, c, Q, cells, slots, rfl, rfl, hx, hb, hml, hown, hts, hK, hw, hc1, hc2⟩ := hE
  exact fun H locs ls hP hS hl => lv_irem hx hb hd (fun h => by rw [iI_0, iI_eq hyr in32_0] at h; omega) (by rw [iI_div hxr hyr h0, iI_mul, iI_sub]; exact k H locs ls hP hS hl)
theorem k_goto (hE : KE w G H0 m cc own nL R) {off : Int} (tgt : Nat) (hd : decode cc pc = .ok (.goto off, 3)) (ht : (pc : Int) + off = (tgt : Int)) (k : KW w G H0 m nL st tgt lo sk) : KW w G H0 m nL st pc lo sk := by
  obtain ⟨p, l, e, s, args, below, meth, c, Q, cells, slots, rfl, rfl, hx, hb, hml, hown, hts, hK, hw, hc1, hc2⟩ := hE
  exact fun H locs ls hP hS hl => lv_goto hx hb hd ht (k H locs ls hP hS hl)
theorem k_dup (hE : KE w G H0 m cc own nL R) {v : Value} (hd : decode cc pc = .ok (.dup, 1)) (hv : v.category = 1) (k : KW w G H0 m nL st (pc + 1) lo (v :: v :: sk)) : KW w G H0 m nL st pc lo (v :: sk) := by
  obtain ⟨p, l, e, s, args, below, meth, c, Q, cells, slots, rfl, rfl, hx, hb, hml, hown, hts, hK, hw, hc1, hc2⟩ := hE
  exact fun H locs ls hP hS hl => lv_dup hx hb hd hv (k H locs ls hP hS hl)
end KROWS
end
section
section KROWS2
variable {σ : Type} {w : WD σ} {G : Heap → List Loc → JFrame → Prop} {H0 : Heap} {m : MethodId} {cc : ByteArray} {own : String} {nL : Nat} {R : Room} {st : σ} {pc : Nat} {lo lo' : List (Nat × Value)} {sk : List Value}
theorem k_icmp_lt (hE : KE w G H0 m cc own nL R) {x y off : Int} (tgt : Nat) (hd : decode cc pc = .ok (.if_icmp .lt off, 3)) (ht : (pc : Int) + off = (tgt : Int)) (hxr : in32 x) (hyr : in32 y) (kt : x < y → KW w G H0 m nL st tgt lo sk) (kf : ¬ x < y → KW w G H0 m nL st (pc + 3) lo sk) : KW w G H0 m nL st pc lo (.int (iI y) :: .int (iI x) :: sk) := by
  obtain ⟨p, l, e, s, args, below, meth, c, Q, cells, slots, rfl, rfl, hx, hb, hml, hown, hts, hK, hw, hc1, hc2⟩ := hE
  exact fun H locs ls hP hS hl => lv_icmp_lt hx hb hd ht (fun h => kt (by rwa [iI_lt hxr hyr] at h) H locs ls hP hS hl) (fun h => kf (by rwa [iI_lt hxr hyr] at h) H locs ls hP hS hl)
theorem k_icmp_le (hE : KE w G H0 m cc own nL R) {x y off : Int} (tgt : Nat) (hd : decode cc pc = .ok (.if_icmp .le off, 3)) (ht : (pc : Int) + off = (tgt : Int)) (hxr : in32 x) (hyr : in32 y) (kt : x ≤ y → KW w G H0 m nL st tgt lo sk) (kf : ¬ x ≤ y → KW w G H0 m nL st (pc + 3) lo sk) : KW w G H0 m nL st pc lo (.int (iI y) :: .int (iI x) :: sk) := by
  obtain ⟨p, l, e, s, args, below, meth, c, Q, cells, slots, rfl, rfl, hx, hb, hml, hown, hts, hK, hw, hc1, hc2⟩ := hE
  exact fun H locs ls hP hS hl => lv_icmp_le hx hb hd ht (fun h => kt (by rwa [iI_le hxr hyr] at h) H locs ls hP hS hl) (fun h => kf (by rwa [iI_le hxr hyr] at h) H locs ls hP hS hl)
theorem k_icmp_gt (hE : KE w G H0 m cc own nL R) {x y off : Int} (tgt : Nat) (hd : decode cc pc = .ok (.if_icmp .gt off, 3)) (ht : (pc : Int) + off = (tgt : Int)) (hxr : in32 x) (hyr : in32 y) (kt : y < x → KW w G H0 m nL st tgt lo sk) (kf : ¬ y < x → KW w G H0 m nL st (pc + 3) lo sk) : KW w G H0 m nL st pc lo (.int (iI y) :: .int (iI x) :: sk) := by
  obtain ⟨p, l, e, s, args, below, meth, c, Q, cells, slots, rfl, rfl, hx, hb, hml, hown, hts, hK, hw, hc1, hc2⟩ := hE
  exact fun H locs ls hP hS hl => lv_icmp_gt hx hb hd ht (fun h => kt (by rwa [iI_lt hyr hxr] at h) H locs ls hP hS hl) (fun h => kf (by rwa [iI_lt hyr hxr] at h) H locs ls hP hS hl)
theorem k_icmp_ge (hE : KE w G H0 m cc own nL R) {x y off : Int} (tgt : Nat) (hd : decode cc pc = .ok (.if_icmp .ge off, 3)) (ht : (pc : Int) + off = (tgt : Int)) (hxr : in32 x) (hyr : in32 y) (kt : y ≤ x → KW w G H0 m nL st tgt lo sk) (kf : ¬ y ≤ x → KW w G H0 m nL st (pc + 3) lo sk) : KW w G H0 m nL st pc lo (.int (iI y) :: .int (iI x) :: sk) := by
  obtain ⟨p, l, e, s, args, below, meth, c, Q, cells, slots, rfl, rfl, hx, hb, hml, hown, hts, hK, hw, hc1, hc2⟩ := hE
  exact fun H locs ls hP hS hl => lv_icmp_ge hx hb hd ht (fun h => kt (by rwa [iI_le hyr hxr] at h) H locs ls hP hS hl) (fun h => kf (by rwa [iI_le hyr hxr] at h) H locs ls hP hS hl)
theorem k_icmp_eq (hE : KE w G H0 m cc own nL R) {x y off : Int} (tgt : Nat) (hd : decode cc pc = .ok (.if_icmp .eq off, 3)) (ht : (pc : Int) + off = (tgt : Int)) (hxr : in32 x) (hyr : in32 y) (kt : x = y → KW w G H0 m nL st tgt lo sk) (kf : ¬ x = y → KW w G H0 m nL st (pc + 3) lo sk) : KW w G H0 m nL st pc lo (.int (iI y) :: .int (iI x) :: sk) := by
  obtain ⟨p, l, e, s, args, below, meth, c, Q, cells, slots, rfl, rfl, hx, hb, hml, hown, hts, hK, hw, hc1, hc2⟩ := hE
  exact fun H locs ls hP hS hl => lv_icmp_eq hx hb hd ht (fun h => kt (by rwa [iI_eq hxr hyr] at h) H locs ls hP hS hl) (fun h => kf (by rwa [iI_eq hxr hyr] at h) H locs ls hP hS hl)
theorem k_icmp_ne (hE : KE w G H0 m cc own nL R) {x y off : Int} (tgt : Nat) (hd : decode cc pc = .ok (.if_icmp .ne off, 3)) (ht : (pc : Int) + off = (tgt : Int)) (hxr : in32 x) (hyr : in32 y) (kt : ¬ x = y → KW w G H0 m nL st tgt lo sk) (kf : x = y → KW w G H0 m nL st (pc + 3) lo sk) : KW w G H0 m nL st pc lo (.int (iI y) :: .int (iI x) :: sk) := by
  obtain ⟨p, l, e, s, args, below, meth, c, Q, cells, slots, rfl, rfl, hx, hb, hml, hown, hts, hK, hw, hc1, hc2⟩ := hE
  exact fun H locs ls hP hS hl => lv_icmp_ne hx hb hd ht (fun h => kt (by rwa [iI_eq hxr hyr] at h) H locs ls hP hS hl) (fun h => kf (by rwa [iI_eq hxr hyr] at h) H locs ls hP hS hl)
theorem k_if_lt (hE : KE w G H0 m cc own nL R) {x off : Int} (tgt : Nat) (hd : decode cc pc = .ok (.ifCond .lt off, 3)) (ht : (pc : Int) + off = (tgt : Int)) (hxr : in32 x) (kt : x < 0 → KW w G H0 m nL st tgt lo sk) (kf : ¬ x < 0 → KW w G H0 m nL st (pc + 3) lo sk) : KW w G H0 m nL st pc lo (.int (iI x) :: sk) := by
  obtain ⟨p, l, e, s, args, below, meth, c, Q, cells, slots, rfl, rfl, hx, hb, hml, hown, hts, hK, hw, hc1, hc2⟩ := hE
  exact fun H locs ls hP hS hl => lv_if_lt hx hb hd ht (fun h => kt (by rwa [iI_0, iI_lt hxr in32_0] at h) H locs ls hP hS hl) (fun h => kf (by rwa [iI_0, iI_lt hxr in32_0] at h) H locs ls hP hS hl)
theorem k_if_le (hE : KE w G H0 m cc own nL R) {x off : Int} (tgt : Nat) (hd : decode cc pc = .ok (.ifCond .le off, 3)) (ht : (pc : Int) + off = (tgt : Int)) (hxr : in32 x) (kt : x ≤ 0 → KW w G H0 m nL st tgt lo sk) (kf : ¬ x ≤ 0 → KW w G H0 m nL st (pc + 3) lo sk) : KW w G H0 m nL st pc lo (.int (iI x) :: sk) := by
  obtain ⟨p, l, e, s, args, below, meth, c, Q, cells, slots, rfl, rfl, hx, hb, hml, hown, hts, hK, hw, hc1, hc2⟩ := hE
  exact fun H locs ls hP hS hl => lv_if_le hx hb hd ht (fun h => kt (by rwa [iI_0, iI_le hxr in32_0] at h) H locs ls hP hS hl) (fun h => kf (by rwa [iI_0, iI_le hxr in32_0] at h) H locs ls hP hS hl)
theorem k_if_gt (hE : KE w G H0 m cc own nL R) {x off : Int} (tgt : Nat) (hd : decode cc pc = .ok (.ifCond .gt off, 3)) (ht : (pc : Int) + off = (tgt : Int)) (hxr : in32 x) (kt : 0 < x → KW w G H0 m nL st tgt lo sk) (kf : ¬ 0 < x → KW w G H0 m nL st (pc + 3) lo sk) : KW w G H0 m nL st pc lo (.int (iI x) :: sk) := by
  obtain ⟨p, l, e, s, args, below, meth, c, Q, cells, slots, rfl, rfl, hx, hb, hml, hown, hts, hK, hw, hc1, hc2⟩ := hE
  exact fun H locs ls hP hS hl => lv_if_gt hx hb hd ht (fun h => kt (by rwa [iI_0, iI_lt in32_0 hxr] at h) H locs ls hP hS hl) (fun h => kf (by rwa [iI_0, iI_lt in32_0 hxr] at h) H locs ls hP hS hl)
theorem k_if_ge (hE : KE w G H0 m cc own nL R) {x off : Int} (tgt : Nat) (hd : decode cc pc = .ok (.ifCond .ge off, 3)) (ht : (pc : Int) + off = (tgt : Int)) (hxr : in32 x) (kt : 0 ≤ x → KW w G H0 m nL st tgt lo sk) (kf : ¬ 0 ≤ x → KW w G H0 m nL st (pc + 3) lo sk) : KW w G H0 m nL st pc lo (.int (iI x) :: sk) := by
  obtain ⟨p, l, e, s, args, below, meth, c, Q, cells, slots, rfl, rfl, hx, hb, hml, hown, hts, hK, hw, hc1, hc2⟩ := hE
  exact fun H locs ls hP hS hl => lv_if_ge hx hb hd ht (fun h => kt (by rwa [iI_0, iI_le in32_0 hxr] at h) H locs ls hP hS hl) (fun h => kf (by rwa [iI_0, iI_le in32_0 hxr] at h) H locs ls hP hS hl)
theorem k_if_eq (hE : KE w G H0 m cc own nL R) {x off : Int} (tgt : Nat) (hd : decode cc pc = .ok (.ifCond .eq off, 3)) (ht : (pc : Int) + off = (tgt : Int)) (hxr : in32 x) (kt : x = 0 → KW w G H0 m nL st tgt lo sk) (kf : ¬ x = 0 → KW w G H0 m nL st (pc + 3) lo sk) : KW w G H0 m nL st pc lo (.int (iI x) :: sk) := by
  obtain ⟨p, l, e, s, args, below, meth, c, Q, cells, slots, rfl, rfl, hx, hb, hml, hown, hts, hK, hw, hc1, hc2⟩ := hE
  exact fun H locs ls hP hS hl => lv_if_eq hx hb hd ht (fun h => kt (by rwa [iI_0, iI_eq hxr in32_0] at h) H locs ls hP hS hl) (fun h => kf (by rwa [iI_0, iI_eq hxr in32_0] at h) H locs ls hP hS hl)
theorem k_if_ne (hE : KE w G H0 m cc own nL R) {x off : Int} (tgt : Nat) (hd : decode cc pc = .ok (.ifCond .ne off, 3)) (ht : (pc : Int) + off = (tgt : Int)) (hxr : in32 x) (kt : ¬ x = 0 → KW w G H0 m nL st tgt lo sk) (kf : x = 0 → KW w G H0 m nL st (pc + 3) lo sk) : KW w G H0 m nL st pc lo (.int (iI x) :: sk) := by
  obtain ⟨p, l, e, s, args, below, meth, c, Q, cells, slots, rfl, rfl, hx, hb, hml, hown, hts, hK, hw, hc1, hc2⟩ := hE
  exact fun H locs ls hP hS hl => lv_if_ne hx hb hd ht (fun h => kt (by rwa [iI_0, iI_eq hxr in32_0] at h) H locs ls hP hS hl) (fun h => kf (by rwa [iI_0, iI_eq hxr in32_0] at h) H locs ls hP hS hl)
theorem k_dup2 (hE : KE w G H0 m cc own nL R) {va vb : Value} (hd : decode cc pc = .ok (.dup2, 1)) (h1 : va.category = 1) (h2 : vb.category = 1) (k : KW w G H0 m nL st (pc + 1) lo (va :: vb :: va :: vb :: sk)) : KW w G H0 m nL st pc lo (va :: vb :: sk) := by
  obtain ⟨p, l, e, s, args, below, meth, c, Q, cells, slots, rfl, rfl, hx, hb, hml, hown, hts, hK, hw, hc1, hc2⟩ := hE
  exact fun H locs ls hP hS hl => lv_dup2_11 hx hb hd h1 h2 (k H locs ls hP hS hl)
theorem k_iret {rt : Option FieldType} {post : Option Value → σ → Prop} (hR : KR w G H0 m nL cc rt post) {z : Int32} (hd : decode cc pc = .ok (.ireturn, 1)) (ht : rt = some .int) (hp : post (some (.int z)) st) : KW w G H0 m nL st pc lo [.int z] :=
  hR.1 .int pc z st lo ht rfl hd hp
theorem k_zret {rt : Option FieldType} {post : Option Value → σ → Prop} (hR : KR w G H0 m nL cc rt post) {z : Int32} (hd : decode cc pc = .ok (.ireturn, 1)) (ht : rt = some .boolean) (hn : narrow .boolean (.int z) = .int z) (hp : post (some (.int z)) st) : KW w G H0 m nL st pc lo [.int z] :=
  hR.1 .boolean pc z st lo ht hn hd hp
theorem k_lret {rt : Option FieldType} {post : Option Value → σ → Prop} (hR : KR w G H0 m nL cc rt post) {z : Int64} (hd : decode cc pc = .ok (.lreturn, 1)) (ht : rt = some .long) (hp : post (some (.long z)) st) : KW w G H0 m nL st pc lo [.long z] :=
  hR.2.1 pc z st lo ht hd hp
theorem k_vret {rt : Option FieldType} {post : Option Value → σ → Prop} (hR : KR w G H0 m nL cc rt post) (hd : decode cc pc = .ok (.return_, 1)) (ht : rt = none) (hp : post none st) : KW w G H0 m nL st pc lo [] :=
  hR.2.2 pc st lo ht hd hp
theorem k_get (hE : KE w G H0 m cc own nL R) {a : Nat} {C ref nm ds : String} {T : u_T} {N idx : Nat} {fs : List Value} {v : Value} (q0 ci k : Nat) (he : (w.1 st)[q0]? = some (a, .inr (ci, fs))) (hc : vwCl[ci]? = some (C, T, N)) (hk : k < N) (hT : (T k).1 = ref ∧ (T k).2.1 = nm ∧ (T k).2.2.1 = ds) (hin : ∀ v ∈ u_ws C T N, v ∈ lw_gt) (hv : fs[k]? = some v) (hl : Cond.fieldLink own idx ref nm ds ∈ lw_gt) (hd : decode cc pc = .ok (.getfield idx, 3)) (k : KW w G H0 m nL st (pc + 3) lo (v :: sk)) : KW w G H0 m nL st pc lo (.ref a :: sk) := by
  obtain ⟨p, l, e, s, args, below, meth, c, Q, cells, slots, rfl, rfl, hx, hb, hml, hown, hts, hK, hw, hc1, hc2⟩ := hE
  obtain ⟨rfl, rfl, rfl⟩ := hT
  exact fun H locs ls hP hS hl0 => va_get (D := w.2.2.1) (ci := ci) hx hb hts hin hown hK hP q0 he hc _ hk (hts _ hl) (fun _ h9 => h9) hv hd (k H locs ls hP hS hl0)
theorem k_put (hE : KE w G H0 m cc own nL R) {a : Nat} {C ref nm ds : String} {T : u_T} {N idx : Nat} {fs : List Value} {v : Value} {ty : FieldType} {ty0 : Nat → FieldType} {st' : σ} (q0 ci k : Nat) (he : (w.1 st)[q0]? = some (a, .inr (ci, fs))) (hc : vwCl[ci]? = some (C, T, N)) (hk : k < N) (hT : (T k).1 = ref ∧ (T k).2.1 = nm ∧ (T k).2.2.1 = ds ∧ (T k).2.2.2 = false) (hin : ∀ v ∈ u_ws C T N, v ∈ lw_gt) (hty : ∀ k, k < N → parseFieldDescriptor (T k).2.2.1 = some (ty0 k)) (hnm : ∀ a, a < N → ∀ b, b < N → a ≠ b → (T a).2.1 ≠ (T b).2.1) (hpd : parseFieldDescriptor ds = some ty) (hnar : narrow ty v = v) (hfit : fits ty v = true) (hlen : k < fs.length) (hset : (w.1 st).set q0 (a, .inr (ci, fs.set k v)) = w.1 st') (hl : Cond.fieldLink own idx ref nm ds ∈ lw_gt) (hd : decode cc pc = .ok (.putfield idx, 3)) (kk : KW w G H0 m nL st' (pc + 3) lo sk) : KW w G H0 m nL st pc lo (v :: .ref a :: sk) := by
  obtain ⟨p, l, e, s, args, below, meth, c, Q, cells, slots, rfl, rfl, hx, hb, hml, hown, hts, hK, hw, hc1, hc2⟩ := hE
  obtain ⟨rfl, rfl, rfl, hfin⟩ := hT
  exact fun H locs ls hP hS hl0 => va_put (D := w.2.2.1) (ci := ci) hx hb hts hin ty0 hty hnm hown hK hP (hw.D s.heap.size st) hS q0 he hc k hk (hts _ hl) (fun _ h9 => h9) hfin hpd hnar hfit hlen hd (fun H1 locs1 hP1 hD1 hS1 => kk H1 locs1 ls (by rw [← hset]; exact hP1) hS1 hl0)
theorem k_iald (hE : KE w G H0 m cc own nL R) {a n : Nat} {cA : ClassId} {f : Nat → Int32} {i : Int} {z : Int32} (q0 t0 : Nat) (ha : (w.1 st)[q0]? = some (a, .inl (cA, n, .inl f))) (ht : w.2.2.2[t0]? = some (cA, .int)) (hn : n < 2147483648) (h0 : 0 ≤ i) (h1 : i < n) (hf : f i.toNat = z) (hd : decode cc pc = .ok (.iaload, 1)) (k : KW w G H0 m nL st (pc + 1) lo (.int z :: sk)) : KW w G H0 m nL st pc lo (.int (iI i) :: .ref a :: sk) := by
  obtain ⟨p, l, e, s, args, below, meth, c, Q, cells, slots, rfl, rfl, hx, hb, hml, hown, hts, hK, hw, hc1, hc2⟩ := hE
  subst hf
  exact fun H locs ls hP hS hl => va_iald (D := w.2.2.1) hx hb hK hP q0 t0 ha ht (iI_in h0 h1 hn) hd (by rw [iI_cl h0 (by omega)]; exact k H locs ls hP hS hl)
theorem k_iast (hE : KE w G H0 m cc own nL R) {a n : Nat} {cA : ClassId} {f : Nat → Int32} {i : Int} {z : Int32} {st' : σ} (q0 t0 : Nat) (ha : (w.1 st)[q0]? = some (a, .inl (cA, n, .inl f))) (ht : w.2.2.2[t0]? = some (cA, .int)) (hn : n < 2147483648) (h0 : 0 ≤ i) (h1 : i < n) (hset : (w.1 st).set q0 (a, .inl (cA, n, .inl (upd f i.toNat z))) = w.1 st') (hd : decode cc pc = .ok (.iastore, 1)) (k : KW w G H0 m nL st' (pc + 1) lo sk) : KW w G H0 m nL st pc lo (.int z :: .int (iI i) :: .ref a :: sk) := by
  obtain ⟨p, l, e, s, args, below, meth, c, Q, cells, slots, rfl, rfl, hx, hb, hml, hown, hts, hK, hw, hc1, hc2⟩ := hE
  exact fun H locs ls hP hS hl => va_iast (D := w.2.2.1) hx hb hK hP (hw.D s.heap.size st) hS q0 t0 ha ht (iI_in h0 h1 hn) hd (fun H1 locs1 hP1 hD1 hS1 => k H1 locs1 ls (by rw [← hset, ← iI_cl h0 (by omega)]; exact hP1) hS1 hl)
theorem k_zald (hE : KE w G H0 m cc own nL R) {a n : Nat} {cA : ClassId} {f : Nat → Int32} {i : Int} {z : Int32} (q0 t0 : Nat) (ha : (w.1 st)[q0]? = some (a, .inl (cA, n, .inl f))) (ht : w.2.2.2[t0]? = some (cA, .boolean)) (hn : n < 2147483648) (h0 : 0 ≤ i) (h1 : i < n) (hf : f i.toNat = z) (hd : decode cc pc = .ok (.baload, 1)) (k : KW w G H0 m nL st (pc + 1) lo (.int z :: sk)) : KW w G H0 m nL st pc lo (.int (iI i) :: .ref a :: sk) := by
  obtain ⟨p, l, e, s, args, below, meth, c, Q, cells, slots, rfl, rfl, hx, hb, hml, hown, hts, hK, hw, hc1, hc2⟩ := hE
  subst hf
  exact fun H locs ls hP hS hl => va_zald (D := w.2.2.1) hx hb hK hP q0 t0 ha ht (iI_in h0 h1 hn) hd (by rw [iI_cl h0 (by omega)]; exact k H locs ls hP hS hl)
theorem k_zast (hE : KE w G H0 m cc own nL R) {a n : Nat} {cA : ClassId} {f : Nat → Int32} {i : Int} {z : Int32} {st' : σ} (q0 t0 : Nat) (ha : (w.1 st)[q0]? = some (a, .inl (cA, n, .inl f))) (ht : w.2.2.2[t0]? = some (cA, .boolean)) (hn : n < 2147483648) (h0 : 0 ≤ i) (h1 : i < n) (hz : vp_nar .boolean z = z) (hset : (w.1 st).set q0 (a, .inl (cA, n, .inl (upd f i.toNat z))) = w.1 st') (hd : decode cc pc = .ok (.bastore, 1)) (k : KW w G H0 m nL st' (pc + 1) lo sk) : KW w G H0 m nL st pc lo (.int z :: .int (iI i) :: .ref a :: sk) := by
  obtain ⟨p, l, e, s, args, below, meth, c, Q, cells, slots, rfl, rfl, hx, hb, hml, hown, hts, hK, hw, hc1, hc2⟩ := hE
  exact fun H locs ls hP hS hl => va_zast (D := w.2.2.1) hx hb hK hP (hw.D s.heap.size st) hS q0 t0 ha ht (iI_in h0 h1 hn) hd (fun H1 locs1 hP1 hD1 hS1 => k H1 locs1 ls (by rw [← hset, ← iI_cl h0 (by omega)]; rw [hz] at hP1; exact hP1) hS1 hl)
theorem k_aald (hE : KE w G H0 m cc own nL R) {a n b : Nat} {cA : ClassId} {C : String} {f : Nat → Option Nat} {i : Int} (q0 t0 : Nat) (ha : (w.1 st)[q0]? = some (a, .inl (cA, n, .inr (.inr (.inr (.inr f)))))) (ht : w.2.2.2[t0]? = some (cA, .object C)) (hn : n < 2147483648) (h0 : 0 ≤ i) (h1 : i < n) (hf : f i.toNat = some b) (hd : decode cc pc = .ok (.aaload, 1)) (k : KW w G H0 m nL st (pc + 1) lo (.ref b :: sk)) : KW w G H0 m nL st pc lo (.int (iI i) :: .ref a :: sk) := by
  obtain ⟨p, l, e, s, args, below, meth, c, Q, cells, slots, rfl, rfl, hx, hb, hml, hown, hts, hK, hw, hc1, hc2⟩ := hE
  exact fun H locs ls hP hS hl => va_aldq (D := w.2.2.1) hx hb hK hP q0 t0 ha ht (iI_in h0 h1 hn) hd (by rw [iI_cl h0 (by omega), hf]; exact k H locs ls hP hS hl)
theorem iI_ifmax {x y : Int} (hx : in32 x) (hy : in32 y) : (if iI x < iI y then iI y else iI x) = iI (max x y) := by
  by_cases h : x < y
  · rw [if_pos ((iI_lt hx hy).mpr h), Int.max_eq_right (by omega)]
  · rw [if_neg (fun h2 => h ((iI_lt hx hy).mp h2)), Int.max_eq_left (by omega)]
theorem iI_ifmin {x y : Int} (hx : in32 x) (hy : in32 y) : (if iI y < iI x then iI y else iI x) = iI (min x y) := by
  by_cases h : y < x
  · rw [if_pos ((iI_lt hy hx).mpr h), Int.min_eq_right (by omega)]
  · rw [if_neg (fun h2 => h ((iI_lt hy hx).mp h2)), Int.min_eq_left (by omega)]
theorem tb_max : Cond.static Lib.Math.max.name ∈ lw_gt ∧ Cond.code Lib.Math.max.name Lib.Math.max.code 2 (some .int) ∈ lw_gt := by decide +kernel
theorem tb_min : Cond.static Lib.Math.min.name ∈ lw_gt ∧ Cond.code Lib.Math.min.name Lib.Math.min.code 2 (some .int) ∈ lw_gt := by decide +kernel
theorem tb_math : Cond.initialized "java/lang/Math" ∈ lw_gt := by decide +kernel
theorem k_max (hE : KE w G H0 m cc own nL R) {idx : Nat} {x y : Int} (hl : Cond.methodLink own idx Lib.Math.max.name ∈ lw_gt) (hd : decode cc pc = .ok (.invokestatic idx, 3)) (hxr : in32 x) (hyr : in32 y) (hf : 1 ≤ R.frames) (hlo : (sk.map fun v => v.category).sum + 13 ≤ R.locals) (k : KW w G H0 m nL st (pc + 3) lo (.int (iI (max x y)) :: sk)) : KW w G H0 m nL st pc lo (.int (iI y) :: .int (iI x) :: sk) := by
  obtain ⟨p, l, e, s, args, below, meth, c, Q, cells, slots, rfl, rfl, hx, hb, hml, hown, hts, hK, hw, hc1, hc2⟩ := hE
  exact fun H locs ls hP hS hl0 => va_mmax hx hb (hml.trans hl0.1.symm) hown (hts _ hl) (hts _ tb_max.1) (hts _ tb_math) (hts _ tb_max.2) hf hlo hc1 hc2 hd (by rw [iI_ifmax hxr hyr]; exact k H locs ls hP hS hl0)
theorem k_min (hE : KE w G H0 m cc own nL R) {idx : Nat} {x y : Int} (hl : Cond.methodLink own idx Lib.Math.min.name ∈ lw_gt) (hd : decode cc pc = .ok (.invokestatic idx, 3)) (hxr : in32 x) (hyr : in32 y) (hf : 1 ≤ R.frames) (hlo : (sk.map fun v => v.category).sum + 13 ≤ R.locals) (k : KW w G H0 m nL st (pc + 3) lo (.int (iI (min x y)) :: sk)) : KW w G H0 m nL st pc lo (.int (iI y) :: .int (iI x) :: sk) := by
  obtain ⟨p, l, e, s, args, below, meth, c, Q, cells, slots, rfl, rfl, hx, hb, hml, hown, hts, hK, hw, hc1, hc2⟩ := hE
  exact fun H locs ls hP hS hl0 => va_mmin hx hb (hml.trans hl0.1.symm) hown (hts _ hl) (hts _ tb_min.1) (hts _ tb_math) (hts _ tb_min.2) hf hlo hc1 hc2 hd (by rw [iI_ifmin hxr hyr]; exact k H locs ls hP hS hl0)
theorem tbl_in {y : MethodName} {b : ByteArray} {n : Nat} {rt : Option FieldType} (h : Cond.code y b n rt ∈ lw_gt) : GoodIn lw_gt (.code y b n rt :: lw_gt) := by
  intro v hv
  have hm : v ∈ lw_gt := by
    rcases List.mem_cons.mp hv with rfl | h2
    · exact h
    · exact h2
  exact ⟨hm, good_of_word (gt_good hm)⟩
/-- a method's words: an instance method, a static one -/
def MF (y : MethodName) (C : String) (b : ByteArray) (nl : Nat) (rt : Option FieldType) (n : Nat) : Prop := Cond.instanceMethod y ∈ lw_gt ∧ Cond.selects C y y ∈ lw_gt ∧ Cond.initialized C ∈ lw_gt ∧ Cond.code y b nl rt ∈ lw_gt ∧ y.cls = C ∧ y.cls ≠ "java/lang/invoke/MethodHandle" ∧ y.cls ≠ "java/lang/invoke/VarHandle" ∧ (parseMethodDescriptor y.desc).map (fun d => d.parameters.length) = some n
def MS (y : MethodName) (C : String) (b : ByteArray) (nl : Nat) (rt : Option FieldType) (n : Nat) : Prop := Cond.static y ∈ lw_gt ∧ Cond.initialized C ∈ lw_gt ∧ Cond.code y b nl rt ∈ lw_gt ∧ y.cls = C ∧ y.cls ≠ "java/lang/invoke/MethodHandle" ∧ y.cls ≠ "java/lang/invoke/VarHandle" ∧ (parseMethodDescriptor y.desc).map (fun d => d.parameters.length) = some n
theorem AA_mono {ads : List Nat} {a b : Nat} (h : a ≤ b) : ∀ q, AA ads b q → AA ads a q := fun q hq => hq.elim Or.inl (fun h2 => Or.inr (Nat.le_trans h h2))
set_option maxHeartbeats 4000000 in
theorem k_callV (hE : KE w G H0 m cc own nL R) {y : MethodName} {C : String} {bytes : ByteArray} {maxL n idx b ci : Nat} {ret : Option FieldType} {rm : Room} {As : List Value} {post : Option Value → σ → Prop} {fs : List Value} {qc : vw_C} (hM : MC w y bytes maxL ret rm (.ref b :: As) st post) (hY : MF y C bytes maxL ret n) (hl : Cond.methodLink own idx y ∈ lw_gt) (q0 : Nat) (hrv : (w.1 st)[q0]? = some (b, .inr (ci, fs))) (hci : vwCl[ci]? = some qc) (hC : qc.1 = C) (hn : As.length = n) (hrm : rm.cells = 0 ∧ rm.slots = 0 ∧ rm.frames + 1 ≤ R.frames ∧ 8 + (maxL + 11) + rm.locals ≤ R.locals) (rest : List Value) (hr8 : (rest.map fun v => v.category).sum ≤ 8) (hd : decode cc pc = .ok (.invokevirtual idx, 3)) (hsk : sk = As.reverse ++ .ref b :: rest) (k : ∀ (rv : Option Value) (u : σ), post rv u → KW w G H0 m nL u (pc + 3) lo (rv.toList ++ rest)) : KW w G H0 m nL st pc lo sk := by
  obtain ⟨p, l, e, s, args, below, meth, c, Q, cells, slots, rfl, rfl, hx, hb, hml, hown, hts, hK, hw, hc1, hc2⟩ := hE
  subst hsk
  intro H locs ls hP hS hl0
  obtain ⟨y1, y2, y3, y4, y5, y6, y7, y8⟩ := hY
  have hrun := va_runV (H := H) (locs := locs) (cells := cells) (slots := slots) (below := below) (meth := meth) (e := e) (R := R) (g := F0 m pc ls (As.reverse ++ .ref b :: rest)) (rest := rest) (Ts := lw_gt) ⟨hx, hb, hml, hown, hts⟩ (hM hw l H.size) ⟨callB_of n hts (tbl_in y4) rfl hrm.1 hrm.2.1 (hts _ (by rw [y5]; exact y3)) (hts _ hl) ⟨y6, y7, y8⟩ hrm.2.2, hts _ y1, hts _ y2⟩ ⟨fun a U g mk q => by obtain ⟨q0, q1, qP, qK⟩ := q; exact ⟨q0, q1, qP, va_K.moved (u := U) (U := U.calling g mk a) (Vm.Alike.refl U.vm) qK⟩, by rw [← hC]; exact va_recv hK hP hci hrv, fun U hU hW => ⟨rfl, by rw [hU], by rw [hU]; exact hP, va_K.moved hW.alike hK⟩⟩ rfl hn hl0.1 rfl (lv_room hr8) hd ⟨hc1, hc2⟩
  intro T hT X
  obtain ⟨v, st₀, t, T', L, h0, X', hL, e1, e2, ⟨⟨rv, u, hv, hp, hP1⟩, hz, hk⟩, stp⟩ := hrun T hT X
  cases hv
  rw [h0] at hz hk
  have hm1 : ∀ q, AA w.2.1 H.size q → AA w.2.1 s.heap.size q := AA_mono hS.1
  obtain ⟨t2, a1, b1⟩ := k _ u hp T'.heap (locs ++ L) ls (by rw [e1]; exact hP1) ⟨Nat.le_trans hS.1 (by rw [e1]; exact hz), fun q h1 h2 => by rw [e1, hk q (Nat.lt_of_lt_of_le h1 hS.1) (fun z => h2 (hm1 q z))]; exact hS.2.1 q h1 h2, fun q hq => by
      rcases List.mem_append.mp hq with h | h
      · exact hS.2.2 q h
      · exact hm1 _ (hL q h)⟩ hl0 T' rfl X'
  exact ⟨t2, stp t2 a1, b1⟩
set_option maxHeartbeats 4000000 in
theorem k_callS (hE : KE w G H0 m cc own nL R) {y : MethodName} {C : String} {bytes : ByteArray} {maxL n idx : Nat} {ret : Option FieldType} {rm : Room} {As : List Value} {post : Option Value → σ → Prop} (hM : MC w y bytes maxL ret rm As st post) (hY : MS y C bytes maxL ret n) (hl : Cond.methodLink own idx y ∈ lw_gt) (hn : As.length = n) (hrm : rm.cells = 0 ∧ rm.slots = 0 ∧ rm.frames + 1 ≤ R.frames ∧ 8 + (maxL + 11) + rm.locals ≤ R.locals) (rest : List Value) (hr8 : (rest.map fun v => v.category).sum ≤ 8) (hd : decode cc pc = .ok (.invokestatic idx, 3)) (hsk : sk = As.reverse ++ rest) (k : ∀ (rv : Option Value) (u : σ), post rv u → KW w G H0 m nL u (pc + 3) lo (rv.toList ++ rest)) : KW w G H0 m nL st pc lo sk := by
  obtain ⟨p, l, e, s, args, below, meth, c, Q, cells, slots, rfl, rfl, hx, hb, hml, hown, hts, hK, hw, hc1, hc2⟩ := hE
  subst hsk
  intro H locs ls hP hS hl0
  obtain ⟨y1, y3, y4, y5, y6, y7, y8⟩ := hY
  have hrun := va_runS (H := H) (locs := locs) (cells := cells) (slots := slots) (below := below) (meth := meth) (e := e) (R := R) (g := F0 m pc ls (As.reverse ++ rest)) (rest := rest) (Ts := lw_gt) ⟨hx, hb, hml, hown, hts⟩ (hM hw l H.size) ⟨callB_of n hts (tbl_in y4) rfl hrm.1 hrm.2.1 (hts _ (by rw [y5]; exact y3)) (hts _ hl) ⟨y6, y7, y8⟩ hrm.2.2, hts _ y1⟩ ⟨fun a U g mk q => by obtain ⟨q0, q1, qP, qK⟩ := q; exact ⟨q0, q1, qP, va_K.moved (u := U) (U := U.calling g mk a) (Vm.Alike.refl U.vm) qK⟩, fun U hU hW => ⟨rfl, by rw [hU], by rw [hU]; exact hP, va_K.moved hW.alike hK⟩⟩ rfl hn hl0.1 rfl (lv_room hr8) hd ⟨hc1, hc2⟩
  intro T hT X
  obtain ⟨v, st₀, t, T', L, h0, X', hL, e1, e2, ⟨⟨rv, u, hv, hp, hP1⟩, hz, hk⟩, stp⟩ := hrun T hT X
  cases hv
  rw [h0] at hz hk
  have hm1 : ∀ q, AA w.2.1 H.size q → AA w.2.1 s.heap.size q := AA_mono hS.1
  obtain ⟨t2, a1, b1⟩ := k _ u hp T'.heap (locs ++ L) ls (by rw [e1]; exact hP1) ⟨Nat.le_trans hS.1 (by rw [e1]; exact hz), fun q h1 h2 => by rw [e1, hk q (Nat.lt_of_lt_of_le h1 hS.1) (fun z => h2 (hm1 q z))]; exact hS.2.1 q h1 h2, fun q hq => by
      rcases List.mem_append.mp hq with h | h
      · exact hS.2.2 q h
      · exact hm1 _ (hL q h)⟩ hl0 T' rfl X'
  exact ⟨t2, stp t2 a1, b1⟩
end KROWS2
end
section
theorem fl_X0_9 : Cond.fieldLink RX0 9 "BarrelTaps$Days" "levels" "[I" ∈ lw_gt := gt_mem (by decide +kernel) rfl
theorem fl_X0_15 : Cond.fieldLink RX0 15 "BarrelTaps$Days" "overs" "[I" ∈ lw_gt := gt_mem (by decide +kernel) rfl
theorem fl_X0_18 : Cond.fieldLink RX0 18 "BarrelTaps$Days" "drawn" "[I" ∈ lw_gt := gt_mem (by decide +kernel) rfl
theorem fl_X0_21 : Cond.fieldLink RX0 21 "BarrelTaps$Days" "order" "[I" ∈ lw_gt := gt_mem (by decide +kernel) rfl
theorem fl_X0_24 : Cond.fieldLink RX0 24 "BarrelTaps$Days" "yard" "LBarrelTaps$Yard;" ∈ lw_gt := gt_mem (by decide +kernel) rfl
theorem fl_X0_28 : Cond.fieldLink RX0 28 "BarrelTaps$Days" "rule" "I" ∈ lw_gt := gt_mem (by decide +kernel) rfl
theorem fl_X0_32 : Cond.fieldLink RX0 32 "BarrelTaps$Yard" "tapCount" "I" ∈ lw_gt := gt_mem (by decide +kernel) rfl
theorem fl_X0_41 : Cond.fieldLink RX0 41 "BarrelTaps$Yard" "taps" "[LBarrelTaps$Tap;" ∈ lw_gt := gt_mem (by decide +kernel) rfl
theorem fl_X0_45 : Cond.fieldLink RX0 45 "BarrelTaps$Tap" "height" "I" ∈ lw_gt := gt_mem (by decide +kernel) rfl
theorem fl_X0_50 : Cond.fieldLink RX0 50 "BarrelTaps$Yard" "rainOn" "[I" ∈ lw_gt := gt_mem (by decide +kernel) rfl
theorem fl_X0_57 : Cond.fieldLink RX0 57 "BarrelTaps$Yard" "cap" "I" ∈ lw_gt := gt_mem (by decide +kernel) rfl
theorem fl_X0_76 : Cond.fieldLink RX0 76 "BarrelTaps$Tap" "need" "I" ∈ lw_gt := gt_mem (by decide +kernel) rfl
theorem fl_X0_87 : Cond.fieldLink RX0 87 "BarrelTaps$Tap" "speed" "I" ∈ lw_gt := gt_mem (by decide +kernel) rfl
theorem fl_X1_9 : Cond.fieldLink RX1 9 "BarrelTaps$Marks" "day" "[I" ∈ lw_gt := gt_mem (by decide +kernel) rfl
theorem fl_X1_15 : Cond.fieldLink RX1 15 "BarrelTaps$Marks" "height" "[I" ∈ lw_gt := gt_mem (by decide +kernel) rfl
theorem fl_X1_18 : Cond.fieldLink RX1 18 "BarrelTaps$Marks" "count" "I" ∈ lw_gt := gt_mem (by decide +kernel) rfl
theorem fl_X2_9 : Cond.fieldLink RX2 9 "BarrelTaps$Sheet" "cells" "[I" ∈ lw_gt := gt_mem (by decide +kernel) rfl
theorem fl_X2_15 : Cond.fieldLink RX2 15 "BarrelTaps$Sheet" "lane" "I" ∈ lw_gt := gt_mem (by decide +kernel) rfl
theorem fl_X2_19 : Cond.fieldLink RX2 19 "BarrelTaps$Sheet" "size" "I" ∈ lw_gt := gt_mem (by decide +kernel) rfl
theorem fl_X3_9 : Cond.fieldLink RX3 9 "BarrelTaps$Tap" "kind" "I" ∈ lw_gt := gt_mem (by decide +kernel) rfl
theorem fl_X3_15 : Cond.fieldLink RX3 15 "BarrelTaps$Tap" "need" "I" ∈ lw_gt := gt_mem (by decide +kernel) rfl
theorem fl_X4_9 : Cond.fieldLink RX4 9 "BarrelTaps$Sheet" "cells" "[I" ∈ lw_gt := gt_mem (by decide +kernel) rfl
theorem fl_X5_11 : Cond.fieldLink RX5 11 "BarrelTaps$Yard" "taps" "[LBarrelTaps$Tap;" ∈ lw_gt := gt_mem (by decide +kernel) rfl
theorem fl_X5_17 : Cond.fieldLink RX5 17 "BarrelTaps$Yard" "rainOn" "[I" ∈ lw_gt := gt_mem (by decide +kernel) rfl
theorem fl_X5_28 : Cond.fieldLink RX5 28 "BarrelTaps$Yard" "cap" "I" ∈ lw_gt := gt_mem (by decide +kernel) rfl
theorem fl_X5_32 : Cond.fieldLink RX5 32 "BarrelTaps$Yard" "per" "I" ∈ lw_gt := gt_mem (by decide +kernel) rfl
theorem fl_X5_41 : Cond.fieldLink RX5 41 "BarrelTaps$Yard" "tapCount" "I" ∈ lw_gt := gt_mem (by decide +kernel) rfl
theorem fl_X5_44 : Cond.fieldLink RX5 44 "BarrelTaps$Sheet" "cells" "[I" ∈ lw_gt := gt_mem (by decide +kernel) rfl
theorem fl_X5_53 : Cond.fieldLink RX5 53 "BarrelTaps$Tap" "kind" "I" ∈ lw_gt := gt_mem (by decide +kernel) rfl
theorem fl_X5_56 : Cond.fieldLink RX5 56 "BarrelTaps$Tap" "height" "I" ∈ lw_gt := gt_mem (by decide +kernel) rfl
theorem fl_X5_59 : Cond.fieldLink RX5 59 "BarrelTaps$Tap" "need" "I" ∈ lw_gt := gt_mem (by decide +kernel) rfl
theorem fl_X5_62 : Cond.fieldLink RX5 62 "BarrelTaps$Tap" "speed" "I" ∈ lw_gt := gt_mem (by decide +kernel) rfl
theorem fl_X5_65 : Cond.fieldLink RX5 65 "BarrelTaps$Yard" "firstWater" "I" ∈ lw_gt := gt_mem (by decide +kernel) rfl
theorem fl_X5_68 : Cond.fieldLink RX5 68 "BarrelTaps$Yard" "rule" "I" ∈ lw_gt := gt_mem (by decide +kernel) rfl
theorem fl_X5_71 : Cond.fieldLink RX5 71 "BarrelTaps$Yard" "leakHeight" "I" ∈ lw_gt := gt_mem (by decide +kernel) rfl
theorem fl_X5_74 : Cond.fieldLink RX5 74 "BarrelTaps$Yard" "leakPails" "I" ∈ lw_gt := gt_mem (by decide +kernel) rfl
theorem fl_X6_12 : Cond.fieldLink RX6 12 "BarrelTaps" "yard" "LBarrelTaps$Yard;" ∈ lw_gt := gt_mem (by decide +kernel) rfl
theorem fl_X6_23 : Cond.fieldLink RX6 23 "BarrelTaps" "days" "LBarrelTaps$Days;" ∈ lw_gt := gt_mem (by decide +kernel) rfl
theorem fl_X6_30 : Cond.fieldLink RX6 30 "BarrelTaps" "marks" "LBarrelTaps$Marks;" ∈ lw_gt := gt_mem (by decide +kernel) rfl
theorem fl_X6_36 : Cond.fieldLink RX6 36 "BarrelTaps" "sheets" "[LBarrelTaps$Sheet;" ∈ lw_gt := gt_mem (by decide +kernel) rfl
theorem fl_X6_41 : Cond.fieldLink RX6 41 "BarrelTaps" "lastFault" "I" ∈ lw_gt := gt_mem (by decide +kernel) rfl
theorem fl_X6_73 : Cond.fieldLink RX6 73 "BarrelTaps$Marks" "count" "I" ∈ lw_gt := gt_mem (by decide +kernel) rfl
theorem fl_X6_76 : Cond.fieldLink RX6 76 "BarrelTaps$Yard" "tapCount" "I" ∈ lw_gt := gt_mem (by decide +kernel) rfl
theorem fl_X6_82 : Cond.fieldLink RX6 82 "BarrelTaps$Yard" "taps" "[LBarrelTaps$Tap;" ∈ lw_gt := gt_mem (by decide +kernel) rfl
theorem fl_X6_86 : Cond.fieldLink RX6 86 "BarrelTaps$Tap" "kind" "I" ∈ lw_gt := gt_mem (by decide +kernel) rfl
theorem fl_X6_91 : Cond.fieldLink RX6 91 "BarrelTaps$Tap" "height" "I" ∈ lw_gt := gt_mem (by decide +kernel) rfl
theorem fl_X6_94 : Cond.fieldLink RX6 94 "BarrelTaps$Tap" "need" "I" ∈ lw_gt := gt_mem (by decide +kernel) rfl
theorem fl_X6_97 : Cond.fieldLink RX6 97 "BarrelTaps$Tap" "speed" "I" ∈ lw_gt := gt_mem (by decide +kernel) rfl
theorem fl_X6_112 : Cond.fieldLink RX6 112 "BarrelTaps$Yard" "cap" "I" ∈ lw_gt := gt_mem (by decide +kernel) rfl
theorem fl_X6_115 : Cond.fieldLink RX6 115 "BarrelTaps$Yard" "firstWater" "I" ∈ lw_gt := gt_mem (by decide +kernel) rfl
theorem fl_X6_121 : Cond.fieldLink RX6 121 "BarrelTaps$Yard" "rainOn" "[I" ∈ lw_gt := gt_mem (by decide +kernel) rfl
theorem fl_X6_125 : Cond.fieldLink RX6 125 "BarrelTaps$Yard" "rule" "I" ∈ lw_gt := gt_mem (by decide +kernel) rfl
theorem fl_X6_128 : Cond.fieldLink RX6 128 "BarrelTaps$Yard" "leakHeight" "I" ∈ lw_gt := gt_mem (by decide +kernel) rfl
theorem fl_X6_131 : Cond.fieldLink RX6 131 "BarrelTaps$Yard" "leakPails" "I" ∈ lw_gt := gt_mem (by decide +kernel) rfl
theorem fl_X6_142 : Cond.fieldLink RX6 142 "BarrelTaps$Days" "levels" "[I" ∈ lw_gt := gt_mem (by decide +kernel) rfl
theorem fl_X6_145 : Cond.fieldLink RX6 145 "BarrelTaps$Days" "overs" "[I" ∈ lw_gt := gt_mem (by decide +kernel) rfl
theorem fl_X6_191 : Cond.fieldLink RX6 191 "BarrelTaps$Sheet" "lane" "I" ∈ lw_gt := gt_mem (by decide +kernel) rfl
theorem fl_X6_194 : Cond.fieldLink RX6 194 "BarrelTaps$Sheet" "cells" "[I" ∈ lw_gt := gt_mem (by decide +kernel) rfl
theorem fl_X6_219 : Cond.fieldLink RX6 219 "BarrelTaps" "traceLeft" "I" ∈ lw_gt := gt_mem (by decide +kernel) rfl
theorem fl_X6_222 : Cond.fieldLink RX6 222 "BarrelTaps$Yard" "per" "I" ∈ lw_gt := gt_mem (by decide +kernel) rfl
theorem fl_X7_9 : Cond.fieldLink RX7 9 "BarrelTapsModel" "sorts" "[I" ∈ lw_gt := gt_mem (by decide +kernel) rfl
theorem fl_X7_13 : Cond.fieldLink RX7 13 "BarrelTapsModel" "sheetLong" "[I" ∈ lw_gt := gt_mem (by decide +kernel) rfl
theorem fl_X7_16 : Cond.fieldLink RX7 16 "BarrelTapsModel" "cells" "[I" ∈ lw_gt := gt_mem (by decide +kernel) rfl
theorem fl_X7_19 : Cond.fieldLink RX7 19 "BarrelTapsModel" "kind" "[I" ∈ lw_gt := gt_mem (by decide +kernel) rfl
theorem fl_X7_22 : Cond.fieldLink RX7 22 "BarrelTapsModel" "height" "[I" ∈ lw_gt := gt_mem (by decide +kernel) rfl
theorem fl_X7_25 : Cond.fieldLink RX7 25 "BarrelTapsModel" "need" "[I" ∈ lw_gt := gt_mem (by decide +kernel) rfl
theorem fl_X7_28 : Cond.fieldLink RX7 28 "BarrelTapsModel" "speed" "[I" ∈ lw_gt := gt_mem (by decide +kernel) rfl
theorem fl_X7_31 : Cond.fieldLink RX7 31 "BarrelTapsModel" "rainOf" "[I" ∈ lw_gt := gt_mem (by decide +kernel) rfl
theorem fl_X7_34 : Cond.fieldLink RX7 34 "BarrelTapsModel" "readKind" "[I" ∈ lw_gt := gt_mem (by decide +kernel) rfl
theorem fl_X7_37 : Cond.fieldLink RX7 37 "BarrelTapsModel" "readDigits" "[I" ∈ lw_gt := gt_mem (by decide +kernel) rfl
theorem fl_X7_40 : Cond.fieldLink RX7 40 "BarrelTapsModel" "levels" "[I" ∈ lw_gt := gt_mem (by decide +kernel) rfl
theorem fl_X7_43 : Cond.fieldLink RX7 43 "BarrelTapsModel" "gotOn" "[I" ∈ lw_gt := gt_mem (by decide +kernel) rfl
theorem fl_X7_46 : Cond.fieldLink RX7 46 "BarrelTapsModel" "overOn" "[I" ∈ lw_gt := gt_mem (by decide +kernel) rfl
theorem fl_X7_49 : Cond.fieldLink RX7 49 "BarrelTapsModel" "drawn" "[I" ∈ lw_gt := gt_mem (by decide +kernel) rfl
theorem fl_X7_52 : Cond.fieldLink RX7 52 "BarrelTapsModel" "isDone" "[Z" ∈ lw_gt := gt_mem (by decide +kernel) rfl
theorem fl_X7_56 : Cond.fieldLink RX7 56 "BarrelTapsModel" "thiefDay" "I" ∈ lw_gt := gt_mem (by decide +kernel) rfl
theorem fl_X7_60 : Cond.fieldLink RX7 60 "BarrelTapsModel" "keptRain" "[I" ∈ lw_gt := gt_mem (by decide +kernel) rfl
theorem fl_X7_63 : Cond.fieldLink RX7 63 "BarrelTapsModel" "markDay" "[I" ∈ lw_gt := gt_mem (by decide +kernel) rfl
theorem fl_X7_66 : Cond.fieldLink RX7 66 "BarrelTapsModel" "markLevel" "[I" ∈ lw_gt := gt_mem (by decide +kernel) rfl
theorem fl_X7_69 : Cond.fieldLink RX7 69 "BarrelTapsModel" "fault" "I" ∈ lw_gt := gt_mem (by decide +kernel) rfl
theorem fl_X7_78 : Cond.fieldLink RX7 78 "BarrelTapsModel" "taps" "I" ∈ lw_gt := gt_mem (by decide +kernel) rfl
theorem fl_X7_96 : Cond.fieldLink RX7 96 "BarrelTapsModel" "at" "I" ∈ lw_gt := gt_mem (by decide +kernel) rfl
theorem fl_X7_102 : Cond.fieldLink RX7 102 "BarrelTapsModel" "readCap" "I" ∈ lw_gt := gt_mem (by decide +kernel) rfl
theorem fl_X7_105 : Cond.fieldLink RX7 105 "BarrelTapsModel" "cap" "I" ∈ lw_gt := gt_mem (by decide +kernel) rfl
theorem fl_X7_108 : Cond.fieldLink RX7 108 "BarrelTapsModel" "readPer" "I" ∈ lw_gt := gt_mem (by decide +kernel) rfl
theorem fl_X7_111 : Cond.fieldLink RX7 111 "BarrelTapsModel" "per" "I" ∈ lw_gt := gt_mem (by decide +kernel) rfl
theorem fl_X7_114 : Cond.fieldLink RX7 114 "BarrelTapsModel" "readTaps" "I" ∈ lw_gt := gt_mem (by decide +kernel) rfl
theorem fl_X7_117 : Cond.fieldLink RX7 117 "BarrelTapsModel" "first" "I" ∈ lw_gt := gt_mem (by decide +kernel) rfl
theorem fl_X7_120 : Cond.fieldLink RX7 120 "BarrelTapsModel" "lawNow" "I" ∈ lw_gt := gt_mem (by decide +kernel) rfl
theorem fl_X7_123 : Cond.fieldLink RX7 123 "BarrelTapsModel" "leakAt" "I" ∈ lw_gt := gt_mem (by decide +kernel) rfl
theorem fl_X7_126 : Cond.fieldLink RX7 126 "BarrelTapsModel" "leaks" "I" ∈ lw_gt := gt_mem (by decide +kernel) rfl
theorem fl_X7_129 : Cond.fieldLink RX7 129 "BarrelTapsModel" "marks" "I" ∈ lw_gt := gt_mem (by decide +kernel) rfl
theorem fl_X7_148 : Cond.fieldLink RX7 148 "BarrelTapsModel" "water" "I" ∈ lw_gt := gt_mem (by decide +kernel) rfl
theorem fl_X7_154 : Cond.fieldLink RX7 154 "BarrelTapsModel" "isJust" "Z" ∈ lw_gt := gt_mem (by decide +kernel) rfl
theorem fl_X7_176 : Cond.fieldLink RX7 176 "BarrelTapsModel" "thiefTap" "I" ∈ lw_gt := gt_mem (by decide +kernel) rfl
theorem fl_X7_179 : Cond.fieldLink RX7 179 "BarrelTapsModel" "thiefMuch" "I" ∈ lw_gt := gt_mem (by decide +kernel) rfl
theorem fl_X7_182 : Cond.fieldLink RX7 182 "BarrelTapsModel" "didGive" "Z" ∈ lw_gt := gt_mem (by decide +kernel) rfl
theorem fl_X7_217 : Cond.fieldLink RX7 217 "BarrelTapsModel" "trace" "I" ∈ lw_gt := gt_mem (by decide +kernel) rfl
theorem ml_L_9 : Cond.methodLink RL 9 yX6_init ∈ lw_gt := gt_mem (by decide +kernel) rfl
theorem ml_L_12 : Cond.methodLink RL 12 yX7_init ∈ lw_gt := gt_mem (by decide +kernel) rfl
theorem ml_L_13 : Cond.methodLink RL 13 yX6_yard ∈ lw_gt := gt_mem (by decide +kernel) rfl
theorem ml_L_17 : Cond.methodLink RL 17 yX7_yard ∈ lw_gt := gt_mem (by decide +kernel) rfl
theorem ml_L_18 : Cond.methodLink RL 18 yX6_ofTap ∈ lw_gt := gt_mem (by decide +kernel) rfl
theorem ml_L_22 : Cond.methodLink RL 22 yX7_ofTap ∈ lw_gt := gt_mem (by decide +kernel) rfl
theorem ml_L_23 : Cond.methodLink RL 23 yX6_bore ∈ lw_gt := gt_mem (by decide +kernel) rfl
theorem ml_L_26 : Cond.methodLink RL 26 yX7_bore ∈ lw_gt := gt_mem (by decide +kernel) rfl
theorem ml_L_27 : Cond.methodLink RL 27 yX6_begin ∈ lw_gt := gt_mem (by decide +kernel) rfl
theorem ml_L_31 : Cond.methodLink RL 31 yX7_begin ∈ lw_gt := gt_mem (by decide +kernel) rfl
theorem ml_L_32 : Cond.methodLink RL 32 yX6_rain ∈ lw_gt := gt_mem (by decide +kernel) rfl
theorem ml_L_35 : Cond.methodLink RL 35 yX7_rain ∈ lw_gt := gt_mem (by decide +kernel) rfl
theorem ml_L_36 : Cond.methodLink RL 36 yX6_law ∈ lw_gt := gt_mem (by decide +kernel) rfl
theorem ml_L_39 : Cond.methodLink RL 39 yX7_law ∈ lw_gt := gt_mem (by decide +kernel) rfl
theorem ml_L_40 : Cond.methodLink RL 40 yX6_leak ∈ lw_gt := gt_mem (by decide +kernel) rfl
theorem ml_L_43 : Cond.methodLink RL 43 yX7_leak ∈ lw_gt := gt_mem (by decide +kernel) rfl
theorem ml_L_44 : Cond.methodLink RL 44 yX6_got ∈ lw_gt := gt_mem (by decide +kernel) rfl
theorem ml_L_47 : Cond.methodLink RL 47 yX7_got ∈ lw_gt := gt_mem (by decide +kernel) rfl
theorem ml_L_48 : Cond.methodLink RL 48 yX6_level ∈ lw_gt := gt_mem (by decide +kernel) rfl
theorem ml_L_51 : Cond.methodLink RL 51 yX7_level ∈ lw_gt := gt_mem (by decide +kernel) rfl
theorem ml_L_52 : Cond.methodLink RL 52 yX6_over ∈ lw_gt := gt_mem (by decide +kernel) rfl
theorem ml_L_55 : Cond.methodLink RL 55 yX7_over ∈ lw_gt := gt_mem (by decide +kernel) rfl
theorem ml_L_56 : Cond.methodLink RL 56 yX6_nobody ∈ lw_gt := gt_mem (by decide +kernel) rfl
theorem ml_L_59 : Cond.methodLink RL 59 yX7_nobody ∈ lw_gt := gt_mem (by decide +kernel) rfl
theorem ml_L_60 : Cond.methodLink RL 60 yX6_dry ∈ lw_gt := gt_mem (by decide +kernel) rfl
theorem ml_L_63 : Cond.methodLink RL 63 yX7_dry ∈ lw_gt := gt_mem (by decide +kernel) rfl
theorem ml_L_64 : Cond.methodLink RL 64 yX6_can ∈ lw_gt := gt_mem (by decide +kernel) rfl
theorem ml_L_67 : Cond.methodLink RL 67 yX7_can ∈ lw_gt := gt_mem (by decide +kernel) rfl
theorem ml_L_68 : Cond.methodLink RL 68 yX6_start ∈ lw_gt := gt_mem (by decide +kernel) rfl
theorem ml_L_71 : Cond.methodLink RL 71 yX7_start ∈ lw_gt := gt_mem (by decide +kernel) rfl
theorem ml_L_72 : Cond.methodLink RL 72 yX6_best ∈ lw_gt := gt_mem (by decide +kernel) rfl
theorem ml_L_75 : Cond.methodLink RL 75 yX7_best ∈ lw_gt := gt_mem (by decide +kernel) rfl
theorem ml_L_76 : Cond.methodLink RL 76 yX6_highest ∈ lw_gt := gt_mem (by decide +kernel) rfl
theorem ml_L_79 : Cond.methodLink RL 79 yX7_highest ∈ lw_gt := gt_mem (by decide +kernel) rfl
theorem ml_L_80 : Cond.methodLink RL 80 yX6_worst ∈ lw_gt := gt_mem (by decide +kernel) rfl
theorem ml_L_84 : Cond.methodLink RL 84 yX7_worst ∈ lw_gt := gt_mem (by decide +kernel) rfl
theorem ml_L_85 : Cond.methodLink RL 85 yX6_risk ∈ lw_gt := gt_mem (by decide +kernel) rfl
theorem ml_L_89 : Cond.methodLink RL 89 yX7_risk ∈ lw_gt := gt_mem (by decide +kernel) rfl
theorem ml_L_90 : Cond.methodLink RL 90 yX6_mark ∈ lw_gt := gt_mem (by decide +kernel) rfl
theorem ml_L_93 : Cond.methodLink RL 93 yX7_mark ∈ lw_gt := gt_mem (by decide +kernel) rfl
theorem ml_L_94 : Cond.methodLink RL 94 yX6_back ∈ lw_gt := gt_mem (by decide +kernel) rfl
theorem ml_L_97 : Cond.methodLink RL 97 yX7_back ∈ lw_gt := gt_mem (by decide +kernel) rfl
theorem ml_L_98 : Cond.methodLink RL 98 yX6_rains ∈ lw_gt := gt_mem (by decide +kernel) rfl
theorem ml_L_101 : Cond.methodLink RL 101 yX7_rains ∈ lw_gt := gt_mem (by decide +kernel) rfl
theorem ml_L_102 : Cond.methodLink RL 102 yX6_thief ∈ lw_gt := gt_mem (by decide +kernel) rfl
theorem ml_L_105 : Cond.methodLink RL 105 yX7_thief ∈ lw_gt := gt_mem (by decide +kernel) rfl
theorem ml_L_106 : Cond.methodLink RL 106 yX6_sheet ∈ lw_gt := gt_mem (by decide +kernel) rfl
theorem ml_L_110 : Cond.methodLink RL 110 yX7_sheet ∈ lw_gt := gt_mem (by decide +kernel) rfl
theorem ml_L_111 : Cond.methodLink RL 111 yX6_lose ∈ lw_gt := gt_mem (by decide +kernel) rfl
theorem ml_L_114 : Cond.methodLink RL 114 yX7_lose ∈ lw_gt := gt_mem (by decide +kernel) rfl
theorem ml_L_115 : Cond.methodLink RL 115 yX6_put ∈ lw_gt := gt_mem (by decide +kernel) rfl
theorem ml_L_118 : Cond.methodLink RL 118 yX7_put ∈ lw_gt := gt_mem (by decide +kernel) rfl
theorem ml_L_119 : Cond.methodLink RL 119 yX6_cell ∈ lw_gt := gt_mem (by decide +kernel) rfl
theorem ml_L_123 : Cond.methodLink RL 123 yX7_cell ∈ lw_gt := gt_mem (by decide +kernel) rfl
theorem ml_L_124 : Cond.methodLink RL 124 yX6_copy ∈ lw_gt := gt_mem (by decide +kernel) rfl
theorem ml_L_128 : Cond.methodLink RL 128 yX7_copy ∈ lw_gt := gt_mem (by decide +kernel) rfl
theorem ml_L_129 : Cond.methodLink RL 129 yX6_tell ∈ lw_gt := gt_mem (by decide +kernel) rfl
theorem ml_L_132 : Cond.methodLink RL 132 yX7_tell ∈ lw_gt := gt_mem (by decide +kernel) rfl
theorem ml_L_133 : Cond.methodLink RL 133 yX6_knock ∈ lw_gt := gt_mem (by decide +kernel) rfl
theorem ml_L_136 : Cond.methodLink RL 136 yX7_knock ∈ lw_gt := gt_mem (by decide +kernel) rfl
theorem ml_L_137 : Cond.methodLink RL 137 yX6_as ∈ lw_gt := gt_mem (by decide +kernel) rfl
theorem ml_L_140 : Cond.methodLink RL 140 yX7_as ∈ lw_gt := gt_mem (by decide +kernel) rfl
theorem ml_L_141 : Cond.methodLink RL 141 yX6_trace ∈ lw_gt := gt_mem (by decide +kernel) rfl
theorem ml_L_145 : Cond.methodLink RL 145 yX7_trace ∈ lw_gt := gt_mem (by decide +kernel) rfl
theorem ml_L_146 : Cond.methodLink RL 146 yX6_fault ∈ lw_gt := gt_mem (by decide +kernel) rfl
theorem ml_L_149 : Cond.methodLink RL 149 yX7_fault ∈ lw_gt := gt_mem (by decide +kernel) rfl
theorem ml_L_150 : Cond.methodLink RL 150 yX6_many ∈ lw_gt := gt_mem (by decide +kernel) rfl
theorem ml_L_153 : Cond.methodLink RL 153 yX7_many ∈ lw_gt := gt_mem (by decide +kernel) rfl
theorem ml_X0_37 : Cond.methodLink RX0 37 yX0_drawsBefore ∈ lw_gt := gt_mem (by decide +kernel) rfl
theorem ml_X0_53 : Cond.methodLink RX0 53 yX0_passDay ∈ lw_gt := gt_mem (by decide +kernel) rfl
theorem ml_X0_60 : Cond.methodLink RX0 60 Lib.Math.max.name ∈ lw_gt := gt_mem (by decide +kernel) rfl
theorem ml_X0_66 : Cond.methodLink RX0 66 yX0_drawByTurns ∈ lw_gt := gt_mem (by decide +kernel) rfl
theorem ml_X0_69 : Cond.methodLink RX0 69 yX0_drawInOrder ∈ lw_gt := gt_mem (by decide +kernel) rfl
theorem ml_X0_72 : Cond.methodLink RX0 72 yX5_leaksOut ∈ lw_gt := gt_mem (by decide +kernel) rfl
theorem ml_X0_79 : Cond.methodLink RX0 79 yX3_wants ∈ lw_gt := gt_mem (by decide +kernel) rfl
theorem ml_X0_83 : Cond.methodLink RX0 83 yX0_draw ∈ lw_gt := gt_mem (by decide +kernel) rfl
theorem ml_X0_90 : Cond.methodLink RX0 90 yX0_drawnBy ∈ lw_gt := gt_mem (by decide +kernel) rfl
theorem ml_X0_93 : Cond.methodLink RX0 93 Lib.Math.min.name ∈ lw_gt := gt_mem (by decide +kernel) rfl
theorem ml_X0_96 : Cond.methodLink RX0 96 yX5_givesAt ∈ lw_gt := gt_mem (by decide +kernel) rfl
theorem ml_X0_99 : Cond.methodLink RX0 99 yX0_isDry ∈ lw_gt := gt_mem (by decide +kernel) rfl
theorem ml_X0_102 : Cond.methodLink RX0 102 yX0_firstDry ∈ lw_gt := gt_mem (by decide +kernel) rfl
theorem ml_X0_105 : Cond.methodLink RX0 105 yX0_startWith ∈ lw_gt := gt_mem (by decide +kernel) rfl
theorem ml_X1_22 : Cond.methodLink RX1 22 Lib.Math.max.name ∈ lw_gt := gt_mem (by decide +kernel) rfl
theorem ml_X4_15 : Cond.methodLink RX4 15 yX4_goesOnWith ∈ lw_gt := gt_mem (by decide +kernel) rfl
theorem ml_X4_21 : Cond.methodLink RX4 21 yX4_tapGoesOnWith ∈ lw_gt := gt_mem (by decide +kernel) rfl
theorem ml_X4_24 : Cond.methodLink RX4 24 yX4_isDigit ∈ lw_gt := gt_mem (by decide +kernel) rfl
theorem ml_X5_22 : Cond.methodLink RX5 22 yX4_digitAt ∈ lw_gt := gt_mem (by decide +kernel) rfl
theorem ml_X5_35 : Cond.methodLink RX5 35 Lib.Math.min.name ∈ lw_gt := gt_mem (by decide +kernel) rfl
theorem ml_X5_49 : Cond.methodLink RX5 49 yX4_kindOf ∈ lw_gt := gt_mem (by decide +kernel) rfl
theorem ml_X5_77 : Cond.methodLink RX5 77 Lib.Math.max.name ∈ lw_gt := gt_mem (by decide +kernel) rfl
theorem ml_X5_80 : Cond.methodLink RX5 80 yX5_givesAt ∈ lw_gt := gt_mem (by decide +kernel) rfl
theorem ml_X6_11 : Cond.methodLink RX6 11 yX5_init ∈ lw_gt := gt_mem (by decide +kernel) rfl
theorem ml_X6_20 : Cond.methodLink RX6 20 yX0_init ∈ lw_gt := gt_mem (by decide +kernel) rfl
theorem ml_X6_45 : Cond.methodLink RX6 45 yX6_noSheet ∈ lw_gt := gt_mem (by decide +kernel) rfl
theorem ml_X6_49 : Cond.methodLink RX6 49 yX6_noLane ∈ lw_gt := gt_mem (by decide +kernel) rfl
theorem ml_X6_52 : Cond.methodLink RX6 52 yX2_faultAsLane ∈ lw_gt := gt_mem (by decide +kernel) rfl
theorem ml_X6_56 : Cond.methodLink RX6 56 yX2_hasCells ∈ lw_gt := gt_mem (by decide +kernel) rfl
theorem ml_X6_60 : Cond.methodLink RX6 60 yX6_failBy ∈ lw_gt := gt_mem (by decide +kernel) rfl
theorem ml_X6_63 : Cond.methodLink RX6 63 yX4_firstFault ∈ lw_gt := gt_mem (by decide +kernel) rfl
theorem ml_X6_69 : Cond.methodLink RX6 69 yX5_readFrom ∈ lw_gt := gt_mem (by decide +kernel) rfl
theorem ml_X6_79 : Cond.methodLink RX6 79 yX6_noTap ∈ lw_gt := gt_mem (by decide +kernel) rfl
theorem ml_X6_100 : Cond.methodLink RX6 100 yX3_wants ∈ lw_gt := gt_mem (by decide +kernel) rfl
theorem ml_X6_104 : Cond.methodLink RX6 104 yX6_isNot ∈ lw_gt := gt_mem (by decide +kernel) rfl
theorem ml_X6_108 : Cond.methodLink RX6 108 yX6_noYard ∈ lw_gt := gt_mem (by decide +kernel) rfl
theorem ml_X6_118 : Cond.methodLink RX6 118 yX6_noDay ∈ lw_gt := gt_mem (by decide +kernel) rfl
theorem ml_X6_134 : Cond.methodLink RX6 134 yX6_passAsTold ∈ lw_gt := gt_mem (by decide +kernel) rfl
theorem ml_X6_138 : Cond.methodLink RX6 138 yX0_drawnBy ∈ lw_gt := gt_mem (by decide +kernel) rfl
theorem ml_X6_148 : Cond.methodLink RX6 148 yX5_beneathAllTaps ∈ lw_gt := gt_mem (by decide +kernel) rfl
theorem ml_X6_151 : Cond.methodLink RX6 151 yX0_firstDry ∈ lw_gt := gt_mem (by decide +kernel) rfl
theorem ml_X6_154 : Cond.methodLink RX6 154 yX0_allHaveNeeds ∈ lw_gt := gt_mem (by decide +kernel) rfl
theorem ml_X6_157 : Cond.methodLink RX6 157 yX0_startWith ∈ lw_gt := gt_mem (by decide +kernel) rfl
theorem ml_X6_161 : Cond.methodLink RX6 161 yX0_passDays ∈ lw_gt := gt_mem (by decide +kernel) rfl
theorem ml_X6_164 : Cond.methodLink RX6 164 yX0_countNeverDry ∈ lw_gt := gt_mem (by decide +kernel) rfl
theorem ml_X6_169 : Cond.methodLink RX6 169 yX0_drawnInAll ∈ lw_gt := gt_mem (by decide +kernel) rfl
theorem ml_X6_172 : Cond.methodLink RX6 172 yX6_inLeastTerms ∈ lw_gt := gt_mem (by decide +kernel) rfl
theorem ml_X6_176 : Cond.methodLink RX6 176 yX0_passDay ∈ lw_gt := gt_mem (by decide +kernel) rfl
theorem ml_X6_179 : Cond.methodLink RX6 179 yX1_addOne ∈ lw_gt := gt_mem (by decide +kernel) rfl
theorem ml_X6_182 : Cond.methodLink RX6 182 yX6_marksHoldBehind ∈ lw_gt := gt_mem (by decide +kernel) rfl
theorem ml_X6_185 : Cond.methodLink RX6 185 yX5_givesAt ∈ lw_gt := gt_mem (by decide +kernel) rfl
theorem ml_X6_188 : Cond.methodLink RX6 188 yX2_makeRow ∈ lw_gt := gt_mem (by decide +kernel) rfl
theorem ml_X6_197 : Cond.methodLink RX6 197 yX2_cutToLane ∈ lw_gt := gt_mem (by decide +kernel) rfl
theorem ml_X6_206 : Cond.methodLink RX6 206 yX6_oldestTells ∈ lw_gt := gt_mem (by decide +kernel) rfl
theorem ml_X6_210 : Cond.methodLink RX6 210 yX6_greedyTells ∈ lw_gt := gt_mem (by decide +kernel) rfl
theorem ml_X6_213 : Cond.methodLink RX6 213 yX6_familyTells ∈ lw_gt := gt_mem (by decide +kernel) rfl
theorem ml_X6_216 : Cond.methodLink RX6 216 yX6_leaveTrace ∈ lw_gt := gt_mem (by decide +kernel) rfl
theorem ml_X6_225 : Cond.methodLink RX6 225 yX1_lastDay ∈ lw_gt := gt_mem (by decide +kernel) rfl
theorem ml_X6_228 : Cond.methodLink RX6 228 yX1_holdAhead ∈ lw_gt := gt_mem (by decide +kernel) rfl
theorem ml_X7_74 : Cond.methodLink RX7 74 yX7_within ∈ lw_gt := gt_mem (by decide +kernel) rfl
theorem ml_X7_81 : Cond.methodLink RX7 81 yX7_isSheet ∈ lw_gt := gt_mem (by decide +kernel) rfl
theorem ml_X7_85 : Cond.methodLink RX7 85 yX7_isSort ∈ lw_gt := gt_mem (by decide +kernel) rfl
theorem ml_X7_88 : Cond.methodLink RX7 88 yX7_against ∈ lw_gt := gt_mem (by decide +kernel) rfl
theorem ml_X7_92 : Cond.methodLink RX7 92 yX7_fails ∈ lw_gt := gt_mem (by decide +kernel) rfl
theorem ml_X7_99 : Cond.methodLink RX7 99 yX7_readYard ∈ lw_gt := gt_mem (by decide +kernel) rfl
theorem ml_X7_132 : Cond.methodLink RX7 132 yX7_digitAt ∈ lw_gt := gt_mem (by decide +kernel) rfl
theorem ml_X7_136 : Cond.methodLink RX7 136 yX7_readTap ∈ lw_gt := gt_mem (by decide +kernel) rfl
theorem ml_X7_139 : Cond.methodLink RX7 139 yX7_isTap ∈ lw_gt := gt_mem (by decide +kernel) rfl
theorem ml_X7_142 : Cond.methodLink RX7 142 yX7_wants ∈ lw_gt := gt_mem (by decide +kernel) rfl
theorem ml_X7_145 : Cond.methodLink RX7 145 yX7_isDay ∈ lw_gt := gt_mem (by decide +kernel) rfl
theorem ml_X7_151 : Cond.methodLink RX7 151 yX7_gives ∈ lw_gt := gt_mem (by decide +kernel) rfl
theorem ml_X7_158 : Cond.methodLink RX7 158 yX7_nextTap ∈ lw_gt := gt_mem (by decide +kernel) rfl
theorem ml_X7_162 : Cond.methodLink RX7 162 yX7_wantsNow ∈ lw_gt := gt_mem (by decide +kernel) rfl
theorem ml_X7_165 : Cond.methodLink RX7 165 yX7_draw ∈ lw_gt := gt_mem (by decide +kernel) rfl
theorem ml_X7_169 : Cond.methodLink RX7 169 yX7_drawByTurns ∈ lw_gt := gt_mem (by decide +kernel) rfl
theorem ml_X7_172 : Cond.methodLink RX7 172 yX7_drawInOrder ∈ lw_gt := gt_mem (by decide +kernel) rfl
theorem ml_X7_185 : Cond.methodLink RX7 185 yX7_goDay ∈ lw_gt := gt_mem (by decide +kernel) rfl
theorem ml_X7_189 : Cond.methodLink RX7 189 yX7_goDays ∈ lw_gt := gt_mem (by decide +kernel) rfl
theorem ml_X7_192 : Cond.methodLink RX7 192 yX7_firstDry ∈ lw_gt := gt_mem (by decide +kernel) rfl
theorem ml_X7_196 : Cond.methodLink RX7 196 yX7_wetOn ∈ lw_gt := gt_mem (by decide +kernel) rfl
theorem ml_X7_199 : Cond.methodLink RX7 199 yX7_againstDays ∈ lw_gt := gt_mem (by decide +kernel) rfl
theorem ml_X7_202 : Cond.methodLink RX7 202 yX7_canAll ∈ lw_gt := gt_mem (by decide +kernel) rfl
theorem ml_X7_205 : Cond.methodLink RX7 205 yX7_inLeastTerms ∈ lw_gt := gt_mem (by decide +kernel) rfl
theorem ml_X7_209 : Cond.methodLink RX7 209 yX7_areSo ∈ lw_gt := gt_mem (by decide +kernel) rfl
theorem ml_X7_213 : Cond.methodLink RX7 213 yX7_lost ∈ lw_gt := gt_mem (by decide +kernel) rfl
theorem ml_X7_220 : Cond.methodLink RX7 220 yX7_begins ∈ lw_gt := gt_mem (by decide +kernel) rfl
theorem mf_X0_allHaveNeeds : MF yX0_allHaveNeeds RX0 cX0_allHaveNeeds 5 (some .boolean) 2 := ⟨gt_mem (by decide +kernel) rfl, gt_mem (by decide +kernel) rfl, gt_mem (by decide +kernel) rfl, gt_mem (by decide +kernel) rfl, rfl, by decide, by decide, by decide +kernel⟩
theorem mf_X0_countNeverDry : MF yX0_countNeverDry RX0 cX0_countNeverDry 4 (some .int) 1 := ⟨gt_mem (by decide +kernel) rfl, gt_mem (by decide +kernel) rfl, gt_mem (by decide +kernel) rfl, gt_mem (by decide +kernel) rfl, rfl, by decide, by decide, by decide +kernel⟩
theorem mf_X0_draw : MF yX0_draw RX0 cX0_draw 6 (some .int) 4 := ⟨gt_mem (by decide +kernel) rfl, gt_mem (by decide +kernel) rfl, gt_mem (by decide +kernel) rfl, gt_mem (by decide +kernel) rfl, rfl, by decide, by decide, by decide +kernel⟩
theorem mf_X0_drawByTurns : MF yX0_drawByTurns RX0 cX0_drawByTurns 10 (some .int) 2 := ⟨gt_mem (by decide +kernel) rfl, gt_mem (by decide +kernel) rfl, gt_mem (by decide +kernel) rfl, gt_mem (by decide +kernel) rfl, rfl, by decide, by decide, by decide +kernel⟩
theorem mf_X0_drawInOrder : MF yX0_drawInOrder RX0 cX0_drawInOrder 7 (some .int) 2 := ⟨gt_mem (by decide +kernel) rfl, gt_mem (by decide +kernel) rfl, gt_mem (by decide +kernel) rfl, gt_mem (by decide +kernel) rfl, rfl, by decide, by decide, by decide +kernel⟩
theorem mf_X0_drawnBy : MF yX0_drawnBy RX0 cX0_drawnBy 3 (some .int) 2 := ⟨gt_mem (by decide +kernel) rfl, gt_mem (by decide +kernel) rfl, gt_mem (by decide +kernel) rfl, gt_mem (by decide +kernel) rfl, rfl, by decide, by decide, by decide +kernel⟩
theorem mf_X0_drawnInAll : MF yX0_drawnInAll RX0 cX0_drawnInAll 5 (some .int) 2 := ⟨gt_mem (by decide +kernel) rfl, gt_mem (by decide +kernel) rfl, gt_mem (by decide +kernel) rfl, gt_mem (by decide +kernel) rfl, rfl, by decide, by decide, by decide +kernel⟩
theorem mf_X0_drawsBefore : MF yX0_drawsBefore RX0 cX0_drawsBefore 5 (some .boolean) 2 := ⟨gt_mem (by decide +kernel) rfl, gt_mem (by decide +kernel) rfl, gt_mem (by decide +kernel) rfl, gt_mem (by decide +kernel) rfl, rfl, by decide, by decide, by decide +kernel⟩
theorem mf_X0_firstDry : MF yX0_firstDry RX0 cX0_firstDry 4 (some .int) 2 := ⟨gt_mem (by decide +kernel) rfl, gt_mem (by decide +kernel) rfl, gt_mem (by decide +kernel) rfl, gt_mem (by decide +kernel) rfl, rfl, by decide, by decide, by decide +kernel⟩
theorem mf_X0_isDry : MF yX0_isDry RX0 cX0_isDry 3 (some .boolean) 2 := ⟨gt_mem (by decide +kernel) rfl, gt_mem (by decide +kernel) rfl, gt_mem (by decide +kernel) rfl, gt_mem (by decide +kernel) rfl, rfl, by decide, by decide, by decide +kernel⟩
theorem mf_X0_passDay : MF yX0_passDay RX0 cX0_passDay 5 none 2 := ⟨gt_mem (by decide +kernel) rfl, gt_mem (by decide +kernel) rfl, gt_mem (by decide +kernel) rfl, gt_mem (by decide +kernel) rfl, rfl, by decide, by decide, by decide +kernel⟩
theorem mf_X0_passDays : MF yX0_passDays RX0 cX0_passDays 4 none 2 := ⟨gt_mem (by decide +kernel) rfl, gt_mem (by decide +kernel) rfl, gt_mem (by decide +kernel) rfl, gt_mem (by decide +kernel) rfl, rfl, by decide, by decide, by decide +kernel⟩
theorem mf_X0_startWith : MF yX0_startWith RX0 cX0_startWith 5 none 2 := ⟨gt_mem (by decide +kernel) rfl, gt_mem (by decide +kernel) rfl, gt_mem (by decide +kernel) rfl, gt_mem (by decide +kernel) rfl, rfl, by decide, by decide, by decide +kernel⟩
theorem mf_X1_addOne : MF yX1_addOne RX1 cX1_addOne 4 (some .int) 2 := ⟨gt_mem (by decide +kernel) rfl, gt_mem (by decide +kernel) rfl, gt_mem (by decide +kernel) rfl, gt_mem (by decide +kernel) rfl, rfl, by decide, by decide, by decide +kernel⟩
theorem mf_X1_holdAhead : MF yX1_holdAhead RX1 cX1_holdAhead 4 (some .boolean) 2 := ⟨gt_mem (by decide +kernel) rfl, gt_mem (by decide +kernel) rfl, gt_mem (by decide +kernel) rfl, gt_mem (by decide +kernel) rfl, rfl, by decide, by decide, by decide +kernel⟩
theorem mf_X1_lastDay : MF yX1_lastDay RX1 cX1_lastDay 3 (some .int) 0 := ⟨gt_mem (by decide +kernel) rfl, gt_mem (by decide +kernel) rfl, gt_mem (by decide +kernel) rfl, gt_mem (by decide +kernel) rfl, rfl, by decide, by decide, by decide +kernel⟩
theorem mf_X2_cutToLane : MF yX2_cutToLane RX2 cX2_cutToLane 2 (some .int) 1 := ⟨gt_mem (by decide +kernel) rfl, gt_mem (by decide +kernel) rfl, gt_mem (by decide +kernel) rfl, gt_mem (by decide +kernel) rfl, rfl, by decide, by decide, by decide +kernel⟩
theorem mf_X2_faultAsLane : MF yX2_faultAsLane RX2 cX2_faultAsLane 2 (some .int) 1 := ⟨gt_mem (by decide +kernel) rfl, gt_mem (by decide +kernel) rfl, gt_mem (by decide +kernel) rfl, gt_mem (by decide +kernel) rfl, rfl, by decide, by decide, by decide +kernel⟩
theorem mf_X2_hasCells : MF yX2_hasCells RX2 cX2_hasCells 3 (some .boolean) 2 := ⟨gt_mem (by decide +kernel) rfl, gt_mem (by decide +kernel) rfl, gt_mem (by decide +kernel) rfl, gt_mem (by decide +kernel) rfl, rfl, by decide, by decide, by decide +kernel⟩
theorem mf_X2_makeRow : MF yX2_makeRow RX2 cX2_makeRow 4 none 2 := ⟨gt_mem (by decide +kernel) rfl, gt_mem (by decide +kernel) rfl, gt_mem (by decide +kernel) rfl, gt_mem (by decide +kernel) rfl, rfl, by decide, by decide, by decide +kernel⟩
theorem mf_X3_wants : MF yX3_wants RX3 cX3_wants 1 (some .int) 0 := ⟨gt_mem (by decide +kernel) rfl, gt_mem (by decide +kernel) rfl, gt_mem (by decide +kernel) rfl, gt_mem (by decide +kernel) rfl, rfl, by decide, by decide, by decide +kernel⟩
theorem ms_X4_digitAt : MS yX4_digitAt RX4 cX4_digitAt 2 (some .int) 2 := ⟨gt_mem (by decide +kernel) rfl, gt_mem (by decide +kernel) rfl, gt_mem (by decide +kernel) rfl, rfl, by decide, by decide, by decide +kernel⟩
theorem ms_X4_firstFault : MS yX4_firstFault RX4 cX4_firstFault 5 (some .int) 3 := ⟨gt_mem (by decide +kernel) rfl, gt_mem (by decide +kernel) rfl, gt_mem (by decide +kernel) rfl, rfl, by decide, by decide, by decide +kernel⟩
theorem ms_X4_goesOnWith : MS yX4_goesOnWith RX4 cX4_goesOnWith 2 (some .boolean) 2 := ⟨gt_mem (by decide +kernel) rfl, gt_mem (by decide +kernel) rfl, gt_mem (by decide +kernel) rfl, rfl, by decide, by decide, by decide +kernel⟩
theorem ms_X4_isDigit : MS yX4_isDigit RX4 cX4_isDigit 1 (some .boolean) 1 := ⟨gt_mem (by decide +kernel) rfl, gt_mem (by decide +kernel) rfl, gt_mem (by decide +kernel) rfl, rfl, by decide, by decide, by decide +kernel⟩
theorem ms_X4_kindOf : MS yX4_kindOf RX4 cX4_kindOf 1 (some .int) 1 := ⟨gt_mem (by decide +kernel) rfl, gt_mem (by decide +kernel) rfl, gt_mem (by decide +kernel) rfl, rfl, by decide, by decide, by decide +kernel⟩
theorem ms_X4_tapGoesOnWith : MS yX4_tapGoesOnWith RX4 cX4_tapGoesOnWith 2 (some .boolean) 2 := ⟨gt_mem (by decide +kernel) rfl, gt_mem (by decide +kernel) rfl, gt_mem (by decide +kernel) rfl, rfl, by decide, by decide, by decide +kernel⟩
theorem mf_X5_beneathAllTaps : MF yX5_beneathAllTaps RX5 cX5_beneathAllTaps 4 (some .int) 1 := ⟨gt_mem (by decide +kernel) rfl, gt_mem (by decide +kernel) rfl, gt_mem (by decide +kernel) rfl, gt_mem (by decide +kernel) rfl, rfl, by decide, by decide, by decide +kernel⟩
theorem mf_X5_givesAt : MF yX5_givesAt RX5 cX5_givesAt 4 (some .int) 2 := ⟨gt_mem (by decide +kernel) rfl, gt_mem (by decide +kernel) rfl, gt_mem (by decide +kernel) rfl, gt_mem (by decide +kernel) rfl, rfl, by decide, by decide, by decide +kernel⟩
theorem mf_X5_leaksOut : MF yX5_leaksOut RX5 cX5_leaksOut 2 (some .int) 1 := ⟨gt_mem (by decide +kernel) rfl, gt_mem (by decide +kernel) rfl, gt_mem (by decide +kernel) rfl, gt_mem (by decide +kernel) rfl, rfl, by decide, by decide, by decide +kernel⟩
theorem mf_X5_readFrom : MF yX5_readFrom RX5 cX5_readFrom 6 none 3 := ⟨gt_mem (by decide +kernel) rfl, gt_mem (by decide +kernel) rfl, gt_mem (by decide +kernel) rfl, gt_mem (by decide +kernel) rfl, rfl, by decide, by decide, by decide +kernel⟩
theorem mf_X6_as : MF yX6_as RX6 cX6_as 3 (some .int) 2 := ⟨gt_mem (by decide +kernel) rfl, gt_mem (by decide +kernel) rfl, gt_mem (by decide +kernel) rfl, gt_mem (by decide +kernel) rfl, rfl, by decide, by decide, by decide +kernel⟩
theorem mf_X6_back : MF yX6_back RX6 cX6_back 2 (some .int) 1 := ⟨gt_mem (by decide +kernel) rfl, gt_mem (by decide +kernel) rfl, gt_mem (by decide +kernel) rfl, gt_mem (by decide +kernel) rfl, rfl, by decide, by decide, by decide +kernel⟩
theorem mf_X6_begin : MF yX6_begin RX6 cX6_begin 3 (some .int) 1 := ⟨gt_mem (by decide +kernel) rfl, gt_mem (by decide +kernel) rfl, gt_mem (by decide +kernel) rfl, gt_mem (by decide +kernel) rfl, rfl, by decide, by decide, by decide +kernel⟩
theorem mf_X6_best : MF yX6_best RX6 cX6_best 7 (some .int) 2 := ⟨gt_mem (by decide +kernel) rfl, gt_mem (by decide +kernel) rfl, gt_mem (by decide +kernel) rfl, gt_mem (by decide +kernel) rfl, rfl, by decide, by decide, by decide +kernel⟩
theorem mf_X6_bore : MF yX6_bore RX6 cX6_bore 4 (some .int) 2 := ⟨gt_mem (by decide +kernel) rfl, gt_mem (by decide +kernel) rfl, gt_mem (by decide +kernel) rfl, gt_mem (by decide +kernel) rfl, rfl, by decide, by decide, by decide +kernel⟩
theorem mf_X6_can : MF yX6_can RX6 cX6_can 2 (some .int) 1 := ⟨gt_mem (by decide +kernel) rfl, gt_mem (by decide +kernel) rfl, gt_mem (by decide +kernel) rfl, gt_mem (by decide +kernel) rfl, rfl, by decide, by decide, by decide +kernel⟩
theorem mf_X6_cell : MF yX6_cell RX6 cX6_cell 6 (some .long) 3 := ⟨gt_mem (by decide +kernel) rfl, gt_mem (by decide +kernel) rfl, gt_mem (by decide +kernel) rfl, gt_mem (by decide +kernel) rfl, rfl, by decide, by decide, by decide +kernel⟩
theorem mf_X6_copy : MF yX6_copy RX6 cX6_copy 8 (some .int) 5 := ⟨gt_mem (by decide +kernel) rfl, gt_mem (by decide +kernel) rfl, gt_mem (by decide +kernel) rfl, gt_mem (by decide +kernel) rfl, rfl, by decide, by decide, by decide +kernel⟩
theorem mf_X6_dry : MF yX6_dry RX6 cX6_dry 2 (some .int) 1 := ⟨gt_mem (by decide +kernel) rfl, gt_mem (by decide +kernel) rfl, gt_mem (by decide +kernel) rfl, gt_mem (by decide +kernel) rfl, rfl, by decide, by decide, by decide +kernel⟩
theorem mf_X6_failBy : MF yX6_failBy RX6 cX6_failBy 2 (some .int) 1 := ⟨gt_mem (by decide +kernel) rfl, gt_mem (by decide +kernel) rfl, gt_mem (by decide +kernel) rfl, gt_mem (by decide +kernel) rfl, rfl, by decide, by decide, by decide +kernel⟩
theorem mf_X6_familyTells : MF yX6_familyTells RX6 cX6_familyTells 2 (some .int) 1 := ⟨gt_mem (by decide +kernel) rfl, gt_mem (by decide +kernel) rfl, gt_mem (by decide +kernel) rfl, gt_mem (by decide +kernel) rfl, rfl, by decide, by decide, by decide +kernel⟩
theorem mf_X6_fault : MF yX6_fault RX6 cX6_fault 1 (some .int) 0 := ⟨gt_mem (by decide +kernel) rfl, gt_mem (by decide +kernel) rfl, gt_mem (by decide +kernel) rfl, gt_mem (by decide +kernel) rfl, rfl, by decide, by decide, by decide +kernel⟩
theorem mf_X6_got : MF yX6_got RX6 cX6_got 3 (some .int) 2 := ⟨gt_mem (by decide +kernel) rfl, gt_mem (by decide +kernel) rfl, gt_mem (by decide +kernel) rfl, gt_mem (by decide +kernel) rfl, rfl, by decide, by decide, by decide +kernel⟩
theorem mf_X6_greedyTells : MF yX6_greedyTells RX6 cX6_greedyTells 2 (some .int) 1 := ⟨gt_mem (by decide +kernel) rfl, gt_mem (by decide +kernel) rfl, gt_mem (by decide +kernel) rfl, gt_mem (by decide +kernel) rfl, rfl, by decide, by decide, by decide +kernel⟩
theorem mf_X6_highest : MF yX6_highest RX6 cX6_highest 7 (some .int) 2 := ⟨gt_mem (by decide +kernel) rfl, gt_mem (by decide +kernel) rfl, gt_mem (by decide +kernel) rfl, gt_mem (by decide +kernel) rfl, rfl, by decide, by decide, by decide +kernel⟩
theorem ms_X6_inLeastTerms : MS yX6_inLeastTerms RX6 cX6_inLeastTerms 7 (some .long) 3 := ⟨gt_mem (by decide +kernel) rfl, gt_mem (by decide +kernel) rfl, gt_mem (by decide +kernel) rfl, rfl, by decide, by decide, by decide +kernel⟩
theorem ms_X6_isNot : MS yX6_isNot RX6 cX6_isNot 3 (some .boolean) 3 := ⟨gt_mem (by decide +kernel) rfl, gt_mem (by decide +kernel) rfl, gt_mem (by decide +kernel) rfl, rfl, by decide, by decide, by decide +kernel⟩
theorem mf_X6_knock : MF yX6_knock RX6 cX6_knock 2 (some .int) 1 := ⟨gt_mem (by decide +kernel) rfl, gt_mem (by decide +kernel) rfl, gt_mem (by decide +kernel) rfl, gt_mem (by decide +kernel) rfl, rfl, by decide, by decide, by decide +kernel⟩
theorem mf_X6_law : MF yX6_law RX6 cX6_law 3 (some .int) 1 := ⟨gt_mem (by decide +kernel) rfl, gt_mem (by decide +kernel) rfl, gt_mem (by decide +kernel) rfl, gt_mem (by decide +kernel) rfl, rfl, by decide, by decide, by decide +kernel⟩
theorem mf_X6_leak : MF yX6_leak RX6 cX6_leak 4 (some .int) 2 := ⟨gt_mem (by decide +kernel) rfl, gt_mem (by decide +kernel) rfl, gt_mem (by decide +kernel) rfl, gt_mem (by decide +kernel) rfl, rfl, by decide, by decide, by decide +kernel⟩
theorem mf_X6_leaveTrace : MF yX6_leaveTrace RX6 cX6_leaveTrace 2 none 1 := ⟨gt_mem (by decide +kernel) rfl, gt_mem (by decide +kernel) rfl, gt_mem (by decide +kernel) rfl, gt_mem (by decide +kernel) rfl, rfl, by decide, by decide, by decide +kernel⟩
theorem mf_X6_level : MF yX6_level RX6 cX6_level 2 (some .int) 1 := ⟨gt_mem (by decide +kernel) rfl, gt_mem (by decide +kernel) rfl, gt_mem (by decide +kernel) rfl, gt_mem (by decide +kernel) rfl, rfl, by decide, by decide, by decide +kernel⟩
theorem mf_X6_lose : MF yX6_lose RX6 cX6_lose 2 (some .int) 1 := ⟨gt_mem (by decide +kernel) rfl, gt_mem (by decide +kernel) rfl, gt_mem (by decide +kernel) rfl, gt_mem (by decide +kernel) rfl, rfl, by decide, by decide, by decide +kernel⟩
theorem mf_X6_many : MF yX6_many RX6 cX6_many 2 (some .int) 1 := ⟨gt_mem (by decide +kernel) rfl, gt_mem (by decide +kernel) rfl, gt_mem (by decide +kernel) rfl, gt_mem (by decide +kernel) rfl, rfl, by decide, by decide, by decide +kernel⟩
theorem mf_X6_mark : MF yX6_mark RX6 cX6_mark 3 (some .int) 2 := ⟨gt_mem (by decide +kernel) rfl, gt_mem (by decide +kernel) rfl, gt_mem (by decide +kernel) rfl, gt_mem (by decide +kernel) rfl, rfl, by decide, by decide, by decide +kernel⟩
theorem mf_X6_marksHoldBehind : MF yX6_marksHoldBehind RX6 cX6_marksHoldBehind 4 (some .boolean) 1 := ⟨gt_mem (by decide +kernel) rfl, gt_mem (by decide +kernel) rfl, gt_mem (by decide +kernel) rfl, gt_mem (by decide +kernel) rfl, rfl, by decide, by decide, by decide +kernel⟩
theorem ms_X6_noDay : MS yX6_noDay RX6 cX6_noDay 1 (some .boolean) 1 := ⟨gt_mem (by decide +kernel) rfl, gt_mem (by decide +kernel) rfl, gt_mem (by decide +kernel) rfl, rfl, by decide, by decide, by decide +kernel⟩
theorem ms_X6_noLane : MS yX6_noLane RX6 cX6_noLane 1 (some .boolean) 1 := ⟨gt_mem (by decide +kernel) rfl, gt_mem (by decide +kernel) rfl, gt_mem (by decide +kernel) rfl, rfl, by decide, by decide, by decide +kernel⟩
theorem ms_X6_noSheet : MS yX6_noSheet RX6 cX6_noSheet 1 (some .boolean) 1 := ⟨gt_mem (by decide +kernel) rfl, gt_mem (by decide +kernel) rfl, gt_mem (by decide +kernel) rfl, rfl, by decide, by decide, by decide +kernel⟩
theorem mf_X6_noTap : MF yX6_noTap RX6 cX6_noTap 2 (some .boolean) 1 := ⟨gt_mem (by decide +kernel) rfl, gt_mem (by decide +kernel) rfl, gt_mem (by decide +kernel) rfl, gt_mem (by decide +kernel) rfl, rfl, by decide, by decide, by decide +kernel⟩
theorem mf_X6_noYard : MF yX6_noYard RX6 cX6_noYard 1 (some .boolean) 0 := ⟨gt_mem (by decide +kernel) rfl, gt_mem (by decide +kernel) rfl, gt_mem (by decide +kernel) rfl, gt_mem (by decide +kernel) rfl, rfl, by decide, by decide, by decide +kernel⟩
theorem mf_X6_nobody : MF yX6_nobody RX6 cX6_nobody 2 (some .int) 1 := ⟨gt_mem (by decide +kernel) rfl, gt_mem (by decide +kernel) rfl, gt_mem (by decide +kernel) rfl, gt_mem (by decide +kernel) rfl, rfl, by decide, by decide, by decide +kernel⟩
theorem mf_X6_ofTap : MF yX6_ofTap RX6 cX6_ofTap 4 (some .int) 2 := ⟨gt_mem (by decide +kernel) rfl, gt_mem (by decide +kernel) rfl, gt_mem (by decide +kernel) rfl, gt_mem (by decide +kernel) rfl, rfl, by decide, by decide, by decide +kernel⟩
theorem mf_X6_oldestTells : MF yX6_oldestTells RX6 cX6_oldestTells 3 (some .int) 1 := ⟨gt_mem (by decide +kernel) rfl, gt_mem (by decide +kernel) rfl, gt_mem (by decide +kernel) rfl, gt_mem (by decide +kernel) rfl, rfl, by decide, by decide, by decide +kernel⟩
theorem mf_X6_over : MF yX6_over RX6 cX6_over 2 (some .int) 1 := ⟨gt_mem (by decide +kernel) rfl, gt_mem (by decide +kernel) rfl, gt_mem (by decide +kernel) rfl, gt_mem (by decide +kernel) rfl, rfl, by decide, by decide, by decide +kernel⟩
theorem mf_X6_passAsTold : MF yX6_passAsTold RX6 cX6_passAsTold 2 none 1 := ⟨gt_mem (by decide +kernel) rfl, gt_mem (by decide +kernel) rfl, gt_mem (by decide +kernel) rfl, gt_mem (by decide +kernel) rfl, rfl, by decide, by decide, by decide +kernel⟩
theorem mf_X6_put : MF yX6_put RX6 cX6_put 5 (some .int) 3 := ⟨gt_mem (by decide +kernel) rfl, gt_mem (by decide +kernel) rfl, gt_mem (by decide +kernel) rfl, gt_mem (by decide +kernel) rfl, rfl, by decide, by decide, by decide +kernel⟩
theorem mf_X6_rain : MF yX6_rain RX6 cX6_rain 4 (some .int) 2 := ⟨gt_mem (by decide +kernel) rfl, gt_mem (by decide +kernel) rfl, gt_mem (by decide +kernel) rfl, gt_mem (by decide +kernel) rfl, rfl, by decide, by decide, by decide +kernel⟩
theorem mf_X6_rains : MF yX6_rains RX6 cX6_rains 5 (some .int) 2 := ⟨gt_mem (by decide +kernel) rfl, gt_mem (by decide +kernel) rfl, gt_mem (by decide +kernel) rfl, gt_mem (by decide +kernel) rfl, rfl, by decide, by decide, by decide +kernel⟩
theorem mf_X6_risk : MF yX6_risk RX6 cX6_risk 10 (some .long) 5 := ⟨gt_mem (by decide +kernel) rfl, gt_mem (by decide +kernel) rfl, gt_mem (by decide +kernel) rfl, gt_mem (by decide +kernel) rfl, rfl, by decide, by decide, by decide +kernel⟩
theorem mf_X6_sheet : MF yX6_sheet RX6 cX6_sheet 4 (some .int) 3 := ⟨gt_mem (by decide +kernel) rfl, gt_mem (by decide +kernel) rfl, gt_mem (by decide +kernel) rfl, gt_mem (by decide +kernel) rfl, rfl, by decide, by decide, by decide +kernel⟩
theorem mf_X6_start : MF yX6_start RX6 cX6_start 3 (some .int) 1 := ⟨gt_mem (by decide +kernel) rfl, gt_mem (by decide +kernel) rfl, gt_mem (by decide +kernel) rfl, gt_mem (by decide +kernel) rfl, rfl, by decide, by decide, by decide +kernel⟩
theorem mf_X6_tell : MF yX6_tell RX6 cX6_tell 3 (some .int) 1 := ⟨gt_mem (by decide +kernel) rfl, gt_mem (by decide +kernel) rfl, gt_mem (by decide +kernel) rfl, gt_mem (by decide +kernel) rfl, rfl, by decide, by decide, by decide +kernel⟩
theorem mf_X6_thief : MF yX6_thief RX6 cX6_thief 6 (some .int) 2 := ⟨gt_mem (by decide +kernel) rfl, gt_mem (by decide +kernel) rfl, gt_mem (by decide +kernel) rfl, gt_mem (by decide +kernel) rfl, rfl, by decide, by decide, by decide +kernel⟩
theorem mf_X6_trace : MF yX6_trace RX6 cX6_trace 1 (some .int) 0 := ⟨gt_mem (by decide +kernel) rfl, gt_mem (by decide +kernel) rfl, gt_mem (by decide +kernel) rfl, gt_mem (by decide +kernel) rfl, rfl, by decide, by decide, by decide +kernel⟩
theorem mf_X6_worst : MF yX6_worst RX6 cX6_worst 8 (some .long) 2 := ⟨gt_mem (by decide +kernel) rfl, gt_mem (by decide +kernel) rfl, gt_mem (by decide +kernel) rfl, gt_mem (by decide +kernel) rfl, rfl, by decide, by decide, by decide +kernel⟩
theorem mf_X6_yard : MF yX6_yard RX6 cX6_yard 8 (some .int) 4 := ⟨gt_mem (by decide +kernel) rfl, gt_mem (by decide +kernel) rfl, gt_mem (by decide +kernel) rfl, gt_mem (by decide +kernel) rfl, rfl, by decide, by decide, by decide +kernel⟩
theorem mf_X7_against : MF yX7_against RX7 cX7_against 5 (some .int) 4 := ⟨gt_mem (by decide +kernel) rfl, gt_mem (by decide +kernel) rfl, gt_mem (by decide +kernel) rfl, gt_mem (by decide +kernel) rfl, rfl, by decide, by decide, by decide +kernel⟩
theorem mf_X7_againstDays : MF yX7_againstDays RX7 cX7_againstDays 2 (some .int) 1 := ⟨gt_mem (by decide +kernel) rfl, gt_mem (by decide +kernel) rfl, gt_mem (by decide +kernel) rfl, gt_mem (by decide +kernel) rfl, rfl, by decide, by decide, by decide +kernel⟩
theorem mf_X7_areSo : MF yX7_areSo RX7 cX7_areSo 2 (some .boolean) 0 := ⟨gt_mem (by decide +kernel) rfl, gt_mem (by decide +kernel) rfl, gt_mem (by decide +kernel) rfl, gt_mem (by decide +kernel) rfl, rfl, by decide, by decide, by decide +kernel⟩
theorem mf_X7_as : MF yX7_as RX7 cX7_as 3 (some .int) 2 := ⟨gt_mem (by decide +kernel) rfl, gt_mem (by decide +kernel) rfl, gt_mem (by decide +kernel) rfl, gt_mem (by decide +kernel) rfl, rfl, by decide, by decide, by decide +kernel⟩
theorem mf_X7_back : MF yX7_back RX7 cX7_back 2 (some .int) 1 := ⟨gt_mem (by decide +kernel) rfl, gt_mem (by decide +kernel) rfl, gt_mem (by decide +kernel) rfl, gt_mem (by decide +kernel) rfl, rfl, by decide, by decide, by decide +kernel⟩
theorem mf_X7_begin : MF yX7_begin RX7 cX7_begin 3 (some .int) 1 := ⟨gt_mem (by decide +kernel) rfl, gt_mem (by decide +kernel) rfl, gt_mem (by decide +kernel) rfl, gt_mem (by decide +kernel) rfl, rfl, by decide, by decide, by decide +kernel⟩
theorem mf_X7_begins : MF yX7_begins RX7 cX7_begins 2 none 1 := ⟨gt_mem (by decide +kernel) rfl, gt_mem (by decide +kernel) rfl, gt_mem (by decide +kernel) rfl, gt_mem (by decide +kernel) rfl, rfl, by decide, by decide, by decide +kernel⟩
theorem mf_X7_best : MF yX7_best RX7 cX7_best 7 (some .int) 2 := ⟨gt_mem (by decide +kernel) rfl, gt_mem (by decide +kernel) rfl, gt_mem (by decide +kernel) rfl, gt_mem (by decide +kernel) rfl, rfl, by decide, by decide, by decide +kernel⟩
theorem mf_X7_bore : MF yX7_bore RX7 cX7_bore 4 (some .int) 2 := ⟨gt_mem (by decide +kernel) rfl, gt_mem (by decide +kernel) rfl, gt_mem (by decide +kernel) rfl, gt_mem (by decide +kernel) rfl, rfl, by decide, by decide, by decide +kernel⟩
theorem mf_X7_can : MF yX7_can RX7 cX7_can 3 (some .int) 1 := ⟨gt_mem (by decide +kernel) rfl, gt_mem (by decide +kernel) rfl, gt_mem (by decide +kernel) rfl, gt_mem (by decide +kernel) rfl, rfl, by decide, by decide, by decide +kernel⟩
theorem mf_X7_canAll : MF yX7_canAll RX7 cX7_canAll 2 (some .boolean) 1 := ⟨gt_mem (by decide +kernel) rfl, gt_mem (by decide +kernel) rfl, gt_mem (by decide +kernel) rfl, gt_mem (by decide +kernel) rfl, rfl, by decide, by decide, by decide +kernel⟩
theorem mf_X7_cell : MF yX7_cell RX7 cX7_cell 4 (some .long) 3 := ⟨gt_mem (by decide +kernel) rfl, gt_mem (by decide +kernel) rfl, gt_mem (by decide +kernel) rfl, gt_mem (by decide +kernel) rfl, rfl, by decide, by decide, by decide +kernel⟩
theorem mf_X7_copy : MF yX7_copy RX7 cX7_copy 10 (some .int) 5 := ⟨gt_mem (by decide +kernel) rfl, gt_mem (by decide +kernel) rfl, gt_mem (by decide +kernel) rfl, gt_mem (by decide +kernel) rfl, rfl, by decide, by decide, by decide +kernel⟩
theorem mf_X7_digitAt : MF yX7_digitAt RX7 cX7_digitAt 4 (some .int) 3 := ⟨gt_mem (by decide +kernel) rfl, gt_mem (by decide +kernel) rfl, gt_mem (by decide +kernel) rfl, gt_mem (by decide +kernel) rfl, rfl, by decide, by decide, by decide +kernel⟩
theorem mf_X7_draw : MF yX7_draw RX7 cX7_draw 4 none 2 := ⟨gt_mem (by decide +kernel) rfl, gt_mem (by decide +kernel) rfl, gt_mem (by decide +kernel) rfl, gt_mem (by decide +kernel) rfl, rfl, by decide, by decide, by decide +kernel⟩
theorem mf_X7_drawByTurns : MF yX7_drawByTurns RX7 cX7_drawByTurns 4 none 0 := ⟨gt_mem (by decide +kernel) rfl, gt_mem (by decide +kernel) rfl, gt_mem (by decide +kernel) rfl, gt_mem (by decide +kernel) rfl, rfl, by decide, by decide, by decide +kernel⟩
theorem mf_X7_drawInOrder : MF yX7_drawInOrder RX7 cX7_drawInOrder 3 none 1 := ⟨gt_mem (by decide +kernel) rfl, gt_mem (by decide +kernel) rfl, gt_mem (by decide +kernel) rfl, gt_mem (by decide +kernel) rfl, rfl, by decide, by decide, by decide +kernel⟩
theorem mf_X7_dry : MF yX7_dry RX7 cX7_dry 2 (some .int) 1 := ⟨gt_mem (by decide +kernel) rfl, gt_mem (by decide +kernel) rfl, gt_mem (by decide +kernel) rfl, gt_mem (by decide +kernel) rfl, rfl, by decide, by decide, by decide +kernel⟩
theorem mf_X7_fails : MF yX7_fails RX7 cX7_fails 2 (some .int) 1 := ⟨gt_mem (by decide +kernel) rfl, gt_mem (by decide +kernel) rfl, gt_mem (by decide +kernel) rfl, gt_mem (by decide +kernel) rfl, rfl, by decide, by decide, by decide +kernel⟩
theorem mf_X7_fault : MF yX7_fault RX7 cX7_fault 1 (some .int) 0 := ⟨gt_mem (by decide +kernel) rfl, gt_mem (by decide +kernel) rfl, gt_mem (by decide +kernel) rfl, gt_mem (by decide +kernel) rfl, rfl, by decide, by decide, by decide +kernel⟩
theorem mf_X7_firstDry : MF yX7_firstDry RX7 cX7_firstDry 4 (some .int) 2 := ⟨gt_mem (by decide +kernel) rfl, gt_mem (by decide +kernel) rfl, gt_mem (by decide +kernel) rfl, gt_mem (by decide +kernel) rfl, rfl, by decide, by decide, by decide +kernel⟩
theorem mf_X7_gives : MF yX7_gives RX7 cX7_gives 3 (some .int) 1 := ⟨gt_mem (by decide +kernel) rfl, gt_mem (by decide +kernel) rfl, gt_mem (by decide +kernel) rfl, gt_mem (by decide +kernel) rfl, rfl, by decide, by decide, by decide +kernel⟩
theorem mf_X7_goDay : MF yX7_goDay RX7 cX7_goDay 3 none 1 := ⟨gt_mem (by decide +kernel) rfl, gt_mem (by decide +kernel) rfl, gt_mem (by decide +kernel) rfl, gt_mem (by decide +kernel) rfl, rfl, by decide, by decide, by decide +kernel⟩
theorem mf_X7_goDays : MF yX7_goDays RX7 cX7_goDays 3 none 1 := ⟨gt_mem (by decide +kernel) rfl, gt_mem (by decide +kernel) rfl, gt_mem (by decide +kernel) rfl, gt_mem (by decide +kernel) rfl, rfl, by decide, by decide, by decide +kernel⟩
theorem mf_X7_got : MF yX7_got RX7 cX7_got 3 (some .int) 2 := ⟨gt_mem (by decide +kernel) rfl, gt_mem (by decide +kernel) rfl, gt_mem (by decide +kernel) rfl, gt_mem (by decide +kernel) rfl, rfl, by decide, by decide, by decide +kernel⟩
theorem mf_X7_highest : MF yX7_highest RX7 cX7_highest 6 (some .int) 2 := ⟨gt_mem (by decide +kernel) rfl, gt_mem (by decide +kernel) rfl, gt_mem (by decide +kernel) rfl, gt_mem (by decide +kernel) rfl, rfl, by decide, by decide, by decide +kernel⟩
theorem ms_X7_inLeastTerms : MS yX7_inLeastTerms RX7 cX7_inLeastTerms 11 (some .long) 3 := ⟨gt_mem (by decide +kernel) rfl, gt_mem (by decide +kernel) rfl, gt_mem (by decide +kernel) rfl, rfl, by decide, by decide, by decide +kernel⟩
theorem ms_X7_isDay : MS yX7_isDay RX7 cX7_isDay 1 (some .boolean) 1 := ⟨gt_mem (by decide +kernel) rfl, gt_mem (by decide +kernel) rfl, gt_mem (by decide +kernel) rfl, rfl, by decide, by decide, by decide +kernel⟩
theorem ms_X7_isSheet : MS yX7_isSheet RX7 cX7_isSheet 1 (some .boolean) 1 := ⟨gt_mem (by decide +kernel) rfl, gt_mem (by decide +kernel) rfl, gt_mem (by decide +kernel) rfl, rfl, by decide, by decide, by decide +kernel⟩
theorem ms_X7_isSort : MS yX7_isSort RX7 cX7_isSort 1 (some .boolean) 1 := ⟨gt_mem (by decide +kernel) rfl, gt_mem (by decide +kernel) rfl, gt_mem (by decide +kernel) rfl, rfl, by decide, by decide, by decide +kernel⟩
theorem mf_X7_isTap : MF yX7_isTap RX7 cX7_isTap 2 (some .boolean) 1 := ⟨gt_mem (by decide +kernel) rfl, gt_mem (by decide +kernel) rfl, gt_mem (by decide +kernel) rfl, gt_mem (by decide +kernel) rfl, rfl, by decide, by decide, by decide +kernel⟩
theorem mf_X7_knock : MF yX7_knock RX7 cX7_knock 2 (some .int) 1 := ⟨gt_mem (by decide +kernel) rfl, gt_mem (by decide +kernel) rfl, gt_mem (by decide +kernel) rfl, gt_mem (by decide +kernel) rfl, rfl, by decide, by decide, by decide +kernel⟩
theorem mf_X7_law : MF yX7_law RX7 cX7_law 3 (some .int) 1 := ⟨gt_mem (by decide +kernel) rfl, gt_mem (by decide +kernel) rfl, gt_mem (by decide +kernel) rfl, gt_mem (by decide +kernel) rfl, rfl, by decide, by decide, by decide +kernel⟩
theorem mf_X7_leak : MF yX7_leak RX7 cX7_leak 4 (some .int) 2 := ⟨gt_mem (by decide +kernel) rfl, gt_mem (by decide +kernel) rfl, gt_mem (by decide +kernel) rfl, gt_mem (by decide +kernel) rfl, rfl, by decide, by decide, by decide +kernel⟩
theorem mf_X7_level : MF yX7_level RX7 cX7_level 2 (some .int) 1 := ⟨gt_mem (by decide +kernel) rfl, gt_mem (by decide +kernel) rfl, gt_mem (by decide +kernel) rfl, gt_mem (by decide +kernel) rfl, rfl, by decide, by decide, by decide +kernel⟩
theorem mf_X7_lose : MF yX7_lose RX7 cX7_lose 3 (some .int) 1 := ⟨gt_mem (by decide +kernel) rfl, gt_mem (by decide +kernel) rfl, gt_mem (by decide +kernel) rfl, gt_mem (by decide +kernel) rfl, rfl, by decide, by decide, by decide +kernel⟩
theorem mf_X7_lost : MF yX7_lost RX7 cX7_lost 2 (some .long) 1 := ⟨gt_mem (by decide +kernel) rfl, gt_mem (by decide +kernel) rfl, gt_mem (by decide +kernel) rfl, gt_mem (by decide +kernel) rfl, rfl, by decide, by decide, by decide +kernel⟩
theorem mf_X7_many : MF yX7_many RX7 cX7_many 2 (some .int) 1 := ⟨gt_mem (by decide +kernel) rfl, gt_mem (by decide +kernel) rfl, gt_mem (by decide +kernel) rfl, gt_mem (by decide +kernel) rfl, rfl, by decide, by decide, by decide +kernel⟩
theorem mf_X7_mark : MF yX7_mark RX7 cX7_mark 3 (some .int) 2 := ⟨gt_mem (by decide +kernel) rfl, gt_mem (by decide +kernel) rfl, gt_mem (by decide +kernel) rfl, gt_mem (by decide +kernel) rfl, rfl, by decide, by decide, by decide +kernel⟩
theorem mf_X7_nextTap : MF yX7_nextTap RX7 cX7_nextTap 5 (some .int) 1 := ⟨gt_mem (by decide +kernel) rfl, gt_mem (by decide +kernel) rfl, gt_mem (by decide +kernel) rfl, gt_mem (by decide +kernel) rfl, rfl, by decide, by decide, by decide +kernel⟩
theorem mf_X7_nobody : MF yX7_nobody RX7 cX7_nobody 4 (some .int) 1 := ⟨gt_mem (by decide +kernel) rfl, gt_mem (by decide +kernel) rfl, gt_mem (by decide +kernel) rfl, gt_mem (by decide +kernel) rfl, rfl, by decide, by decide, by decide +kernel⟩
theorem mf_X7_ofTap : MF yX7_ofTap RX7 cX7_ofTap 3 (some .int) 2 := ⟨gt_mem (by decide +kernel) rfl, gt_mem (by decide +kernel) rfl, gt_mem (by decide +kernel) rfl, gt_mem (by decide +kernel) rfl, rfl, by decide, by decide, by decide +kernel⟩
theorem mf_X7_over : MF yX7_over RX7 cX7_over 2 (some .int) 1 := ⟨gt_mem (by decide +kernel) rfl, gt_mem (by decide +kernel) rfl, gt_mem (by decide +kernel) rfl, gt_mem (by decide +kernel) rfl, rfl, by decide, by decide, by decide +kernel⟩
theorem mf_X7_put : MF yX7_put RX7 cX7_put 4 (some .int) 3 := ⟨gt_mem (by decide +kernel) rfl, gt_mem (by decide +kernel) rfl, gt_mem (by decide +kernel) rfl, gt_mem (by decide +kernel) rfl, rfl, by decide, by decide, by decide +kernel⟩
theorem mf_X7_rain : MF yX7_rain RX7 cX7_rain 4 (some .int) 2 := ⟨gt_mem (by decide +kernel) rfl, gt_mem (by decide +kernel) rfl, gt_mem (by decide +kernel) rfl, gt_mem (by decide +kernel) rfl, rfl, by decide, by decide, by decide +kernel⟩
theorem mf_X7_rains : MF yX7_rains RX7 cX7_rains 8 (some .int) 2 := ⟨gt_mem (by decide +kernel) rfl, gt_mem (by decide +kernel) rfl, gt_mem (by decide +kernel) rfl, gt_mem (by decide +kernel) rfl, rfl, by decide, by decide, by decide +kernel⟩
theorem mf_X7_readTap : MF yX7_readTap RX7 cX7_readTap 5 (some .boolean) 1 := ⟨gt_mem (by decide +kernel) rfl, gt_mem (by decide +kernel) rfl, gt_mem (by decide +kernel) rfl, gt_mem (by decide +kernel) rfl, rfl, by decide, by decide, by decide +kernel⟩
theorem mf_X7_readYard : MF yX7_readYard RX7 cX7_readYard 4 (some .boolean) 1 := ⟨gt_mem (by decide +kernel) rfl, gt_mem (by decide +kernel) rfl, gt_mem (by decide +kernel) rfl, gt_mem (by decide +kernel) rfl, rfl, by decide, by decide, by decide +kernel⟩
theorem mf_X7_risk : MF yX7_risk RX7 cX7_risk 9 (some .long) 5 := ⟨gt_mem (by decide +kernel) rfl, gt_mem (by decide +kernel) rfl, gt_mem (by decide +kernel) rfl, gt_mem (by decide +kernel) rfl, rfl, by decide, by decide, by decide +kernel⟩
theorem mf_X7_sheet : MF yX7_sheet RX7 cX7_sheet 5 (some .int) 3 := ⟨gt_mem (by decide +kernel) rfl, gt_mem (by decide +kernel) rfl, gt_mem (by decide +kernel) rfl, gt_mem (by decide +kernel) rfl, rfl, by decide, by decide, by decide +kernel⟩
theorem mf_X7_start : MF yX7_start RX7 cX7_start 6 (some .int) 1 := ⟨gt_mem (by decide +kernel) rfl, gt_mem (by decide +kernel) rfl, gt_mem (by decide +kernel) rfl, gt_mem (by decide +kernel) rfl, rfl, by decide, by decide, by decide +kernel⟩
theorem mf_X7_tell : MF yX7_tell RX7 cX7_tell 3 (some .int) 1 := ⟨gt_mem (by decide +kernel) rfl, gt_mem (by decide +kernel) rfl, gt_mem (by decide +kernel) rfl, gt_mem (by decide +kernel) rfl, rfl, by decide, by decide, by decide +kernel⟩
theorem mf_X7_thief : MF yX7_thief RX7 cX7_thief 5 (some .int) 2 := ⟨gt_mem (by decide +kernel) rfl, gt_mem (by decide +kernel) rfl, gt_mem (by decide +kernel) rfl, gt_mem (by decide +kernel) rfl, rfl, by decide, by decide, by decide +kernel⟩
theorem mf_X7_trace : MF yX7_trace RX7 cX7_trace 1 (some .int) 0 := ⟨gt_mem (by decide +kernel) rfl, gt_mem (by decide +kernel) rfl, gt_mem (by decide +kernel) rfl, gt_mem (by decide +kernel) rfl, rfl, by decide, by decide, by decide +kernel⟩
theorem mf_X7_wants : MF yX7_wants RX7 cX7_wants 2 (some .int) 1 := ⟨gt_mem (by decide +kernel) rfl, gt_mem (by decide +kernel) rfl, gt_mem (by decide +kernel) rfl, gt_mem (by decide +kernel) rfl, rfl, by decide, by decide, by decide +kernel⟩
theorem mf_X7_wantsNow : MF yX7_wantsNow RX7 cX7_wantsNow 2 (some .int) 1 := ⟨gt_mem (by decide +kernel) rfl, gt_mem (by decide +kernel) rfl, gt_mem (by decide +kernel) rfl, gt_mem (by decide +kernel) rfl, rfl, by decide, by decide, by decide +kernel⟩
theorem mf_X7_wetOn : MF yX7_wetOn RX7 cX7_wetOn 4 (some .int) 1 := ⟨gt_mem (by decide +kernel) rfl, gt_mem (by decide +kernel) rfl, gt_mem (by decide +kernel) rfl, gt_mem (by decide +kernel) rfl, rfl, by decide, by decide, by decide +kernel⟩
theorem ms_X7_within : MS yX7_within RX7 cX7_within 3 (some .boolean) 3 := ⟨gt_mem (by decide +kernel) rfl, gt_mem (by decide +kernel) rfl, gt_mem (by decide +kernel) rfl, rfl, by decide, by decide, by decide +kernel⟩
theorem mf_X7_worst : MF yX7_worst RX7 cX7_worst 12 (some .long) 2 := ⟨gt_mem (by decide +kernel) rfl, gt_mem (by decide +kernel) rfl, gt_mem (by decide +kernel) rfl, gt_mem (by decide +kernel) rfl, rfl, by decide, by decide, by decide +kernel⟩
theorem mf_X7_yard : MF yX7_yard RX7 cX7_yard 8 (some .int) 4 := ⟨gt_mem (by decide +kernel) rfl, gt_mem (by decide +kernel) rfl, gt_mem (by decide +kernel) rfl, gt_mem (by decide +kernel) rfl, rfl, by decide, by decide, by decide +kernel⟩
theorem uw_X0 : ∀ v ∈ u_ws RX0 TX0 6, v ∈ lw_gt := by decide +kernel
theorem uw_X1 : ∀ v ∈ u_ws RX1 TX1 3, v ∈ lw_gt := by decide +kernel
theorem uw_X2 : ∀ v ∈ u_ws RX2 TX2 3, v ∈ lw_gt := by decide +kernel
theorem uw_X3 : ∀ v ∈ u_ws RX3 TX3 4, v ∈ lw_gt := by decide +kernel
theorem uw_X5 : ∀ v ∈ u_ws RX5 TX5 9, v ∈ lw_gt := by decide +kernel
theorem uw_X6 : ∀ v ∈ u_ws RX6 TX6 6, v ∈ lw_gt := by decide +kernel
theorem uw_X7 : ∀ v ∈ u_ws RX7 TX7 38, v ∈ lw_gt := by decide +kernel
end
section
/-! states: whole numbers by their number; rows by their number and place -/
def uv (v : Nat → Int) (k : Nat) (x : Int) : Nat → Int := fun j => if j = k then x else v j
def ur (r : Nat → Int → Int) (k : Nat) (i x : Int) : Nat → Int → Int := fun a j => if a = k then (if j = i then x else r a j) else r a j
theorem uv_s (v : Nat → Int) (k : Nat) (x : Int) : uv v k x k = x := if_pos rfl
theorem uv_n (v : Nat → Int) {k j : Nat} (x : Int) (h : j ≠ k) : uv v k x j = v j := if_neg h
theorem ur_s (r : Nat → Int → Int) (k : Nat) (i x : Int) : ur r k i x k i = x := by unfold ur; rw [if_pos rfl, if_pos rfl]
theorem ur_n (r : Nat → Int → Int) {k a : Nat} (i x : Int) (h : a ≠ k) : ur r k i x a = r a := by funext j; unfold ur; rw [if_neg h]
theorem ur_o (r : Nat → Int → Int) (k : Nat) {i j : Int} (x : Int) (h : j ≠ i) : ur r k i x k j = r k j := by unfold ur; rw [if_pos rfl, if_neg h]
theorem ur_c (r : Nat → Int → Int) (k : Nat) (i j x : Int) : ur r k i x k j = if j = i then x else r k j := by unfold ur; rw [if_pos rfl]
def rI (f : Int → Int) : Nat → Int32 := fun j => iI (f (j : Int))
theorem rI_at {f : Int → Int} {i z : Int} (h : 0 ≤ i) (hz : f i = z) : rI f i.toNat = iI z := by
  unfold rI; rw [Int.toNat_of_nonneg h, hz]
theorem rI_up {r : Nat → Int → Int} {a : Nat} {i z : Int} (h : 0 ≤ i) : upd (rI (r a)) i.toNat (iI z) = rI (ur r a i z a) := by
  funext j
  unfold upd rI
  rw [ur_c]
  by_cases e : j = i.toNat
  · rw [if_pos e, if_pos (by omega)]
  · rw [if_neg e, if_neg (by omega)]
def rA (f : Int → Nat) : Nat → Option Nat := fun j => some (f (j : Int))
theorem rA_at {f : Int → Nat} {i : Int} (h : 0 ≤ i) : rA f i.toNat = some (f i) := by
  unfold rA; rw [Int.toNat_of_nonneg h]
theorem k_nm {σ : Type} {w : WD σ} {G : Heap → List Loc → JFrame → Prop} {H0 : Heap} {m : MethodId} {nL pc : Nat} {st : σ} {lo : List (Nat × Value)} {sk : List Value} (k : ∀ S : σ, S = st → KW w G H0 m nL S pc lo sk) : KW w G H0 m nL st pc lo sk := k st rfl

def xW (ad : Nat → Nat) (ta sa ca : Int → Nat) (cI cT cS : ClassId) (st : Sg) : va_W :=
  [(ad 0, .inr (5, [.ref (ad 1), .ref (ad 4), .ref (ad 9), .ref (ad 12), .int (iI (st.1 8)), .int (iI (st.1 9))])),
   (ad 1, .inr (4, [.ref (ad 2), .ref (ad 3), .int (iI (st.1 0)), .int (iI (st.1 1)), .int (iI (st.1 2)), .int (iI (st.1 3)), .int (iI (st.1 4)), .int (iI (st.1 5)), .int (iI (st.1 6))])),
   (ad 2, .inl (cT, 6, .inr (.inr (.inr (.inr (rA ta)))))),
   (ad 3, .inl (cI, 10, .inl (rI (st.2 4)))),
   (ad 4, .inr (0, [.ref (ad 5), .ref (ad 6), .ref (ad 1), .ref (ad 7), .ref (ad 8), .int (iI (st.1 10))])),
   (ad 5, .inl (cI, 11, .inl (rI (st.2 9)))),
   (ad 6, .inl (cI, 10, .inl (rI (st.2 10)))),
   (ad 7, .inl (cI, 60, .inl (rI (st.2 11)))),
   (ad 8, .inl (cI, 6, .inl (rI (st.2 12)))),
   (ad 9, .inr (1, [.ref (ad 10), .ref (ad 11), .int (iI (st.1 7))])),
   (ad 10, .inl (cI, 8, .inl (rI (st.2 5)))),
   (ad 11, .inl (cI, 8, .inl (rI (st.2 6)))),
   (ad 12, .inl (cS, 4, .inr (.inr (.inr (.inr (rA sa)))))),
   (ta 0, .inr (3, [.int (iI (st.2 0 0)), .int (iI (st.2 1 0)), .int (iI (st.2 2 0)), .int (iI (st.2 3 0))])),
   (ta 1, .inr (3, [.int (iI (st.2 0 1)), .int (iI (st.2 1 1)), .int (iI (st.2 2 1)), .int (iI (st.2 3 1))])),
   (ta 2, .inr (3, [.int (iI (st.2 0 2)), .int (iI (st.2 1 2)), .int (iI (st.2 2 2)), .int (iI (st.2 3 2))])),
   (ta 3, .inr (3, [.int (iI (st.2 0 3)), .int (iI (st.2 1 3)), .int (iI (st.2 2 3)), .int (iI (st.2 3 3))])),
   (ta 4, .inr (3, [.int (iI (st.2 0 4)), .int (iI (st.2 1 4)), .int (iI (st.2 2 4)), .int (iI (st.2 3 4))])),
   (ta 5, .inr (3, [.int (iI (st.2 0 5)), .int (iI (st.2 1 5)), .int (iI (st.2 2 5)), .int (iI (st.2 3 5))])),
   (sa 0, .inr (2, [.ref (ca 0), .int (iI (st.2 7 0)), .int (iI (st.2 8 0))])),
   (sa 1, .inr (2, [.ref (ca 1), .int (iI (st.2 7 1)), .int (iI (st.2 8 1))])),
   (sa 2, .inr (2, [.ref (ca 2), .int (iI (st.2 7 2)), .int (iI (st.2 8 2))])),
   (sa 3, .inr (2, [.ref (ca 3), .int (iI (st.2 7 3)), .int (iI (st.2 8 3))])),
   (ca 0, .inl (cI, 60, .inl (rI (st.2 20)))),
   (ca 1, .inl (cI, 60, .inl (rI (st.2 21)))),
   (ca 2, .inl (cI, 60, .inl (rI (st.2 22)))),
   (ca 3, .inl (cI, 60, .inl (rI (st.2 23))))]

def xads (ad : Nat → Nat) (ta sa ca : Int → Nat) : List Nat := [ad 0, ad 1, ad 2, ad 3, ad 4, ad 5, ad 6, ad 7, ad 8, ad 9, ad 10, ad 11, ad 12, ta 0, ta 1, ta 2, ta 3, ta 4, ta 5, sa 0, sa 1, sa 2, sa 3, ca 0, ca 1, ca 2, ca 3]

abbrev xw (ad : Nat → Nat) (ta sa ca : Int → Nat) (D : va_G) (cI cT cS : ClassId) : WD Sg := (xW ad ta sa ca cI cT cS, xads ad ta sa ca, D, [(cI, .int), (cT, .object "BarrelTaps$Tap"), (cS, .object "BarrelTaps$Sheet")])

section XROWS
variable {ad : Nat → Nat} {ta sa ca : Int → Nat} {D : va_G} {cI cT cS : ClassId} {G : Heap → List Loc → JFrame → Prop} {H0 : Heap} {m : MethodId} {cc : ByteArray} {own : String} {nL : Nat} {R : Room} {st : Sg} {pc : Nat} {lo : List (Nat × Value)} {sk : List Value}

theorem x_get_X6_yard (hE : KE (xw ad ta sa ca D cI cT cS) G H0 m cc own nL R) {idx : Nat} (hl : Cond.fieldLink own idx "BarrelTaps" "yard" "LBarrelTaps$Yard;" ∈ lw_gt) (hd : decode cc pc = .ok (.getfield idx, 3)) (k : KW (xw ad ta sa ca D cI cT cS) G H0 m nL st (pc + 3) lo (.ref (ad 1) :: sk)) : KW (xw ad ta sa ca D cI cT cS) G H0 m nL st pc lo (.ref (ad 0) :: sk) :=
  k_get hE 0 5 0 rfl rfl (by decide) ⟨rfl, rfl, rfl⟩ uw_X6 rfl hl hd k
theorem x_get_X6_days (hE : KE (xw ad ta sa ca D cI cT cS) G H0 m cc own nL R) {idx : Nat} (hl : Cond.fieldLink own idx "BarrelTaps" "days" "LBarrelTaps$Days;" ∈ lw_gt) (hd : decode cc pc = .ok (.getfield idx, 3)) (k : KW (xw ad ta sa ca D cI cT cS) G H0 m nL st (pc + 3) lo (.ref (ad 4) :: sk)) : KW (xw ad ta sa ca D cI cT cS) G H0 m nL st pc lo (.ref (ad 0) :: sk) :=
  k_get hE 0 5 1 rfl rfl (by decide) ⟨rfl, rfl, rfl⟩ uw_X6 rfl hl hd k
theorem x_get_X6_marks (hE : KE (xw ad ta sa ca D cI cT cS) G H0 m cc own nL R) {idx : Nat} (hl : Cond.fieldLink own idx "BarrelTaps" "marks" "LBarrelTaps$Marks;" ∈ lw_gt) (hd : decode cc pc = .ok (.getfield idx, 3)) (k : KW (xw ad ta sa ca D cI cT cS) G H0 m nL st (pc + 3) lo (.ref (ad 9) :: sk)) : KW (xw ad ta sa ca D cI cT cS) G H0 m nL st pc lo (.ref (ad 0) :: sk) :=
  k_get hE 0 5 2 rfl rfl (by decide) ⟨rfl, rfl, rfl⟩ uw_X6 rfl hl hd k
theorem x_get_X6_sheets (hE : KE (xw ad ta sa ca D cI cT cS) G H0 m cc own nL R) {idx : Nat} (hl : Cond.fieldLink own idx "BarrelTaps" "sheets" "[LBarrelTaps$Sheet;" ∈ lw_gt) (hd : decode cc pc = .ok (.getfield idx, 3)) (k : KW (xw ad ta sa ca D cI cT cS) G H0 m nL st (pc + 3) lo (.ref (ad 12) :: sk)) : KW (xw ad ta sa ca D cI cT cS) G H0 m nL st pc lo (.ref (ad 0) :: sk) :=
  k_get hE 0 5 3 rfl rfl (by decide) ⟨rfl, rfl, rfl⟩ uw_X6 rfl hl hd k
theorem x_get_X6_traceLeft (hE : KE (xw ad ta sa ca D cI cT cS) G H0 m cc own nL R) {idx : Nat} {z : Int} (hz : st.1 8 = z) (hl : Cond.fieldLink own idx "BarrelTaps" "traceLeft" "I" ∈ lw_gt) (hd : decode cc pc = .ok (.getfield idx, 3)) (k : KW (xw ad ta sa ca D cI cT cS) G H0 m nL st (pc + 3) lo (.int (iI z) :: sk)) : KW (xw ad ta sa ca D cI cT cS) G H0 m nL st pc lo (.ref (ad 0) :: sk) := by
  subst hz; exact k_get hE 0 5 4 rfl rfl (by decide) ⟨rfl, rfl, rfl⟩ uw_X6 rfl hl hd k
theorem x_put_X6_traceLeft (hE : KE (xw ad ta sa ca D cI cT cS) G H0 m cc own nL R) {idx : Nat} {z : Int} (hl : Cond.fieldLink own idx "BarrelTaps" "traceLeft" "I" ∈ lw_gt) (hd : decode cc pc = .ok (.putfield idx, 3)) (k : KW (xw ad ta sa ca D cI cT cS) G H0 m nL (uv st.1 8 z, st.2) (pc + 3) lo sk) : KW (xw ad ta sa ca D cI cT cS) G H0 m nL st pc lo (.int (iI z) :: .ref (ad 0) :: sk) :=
  k_put hE 0 5 4 rfl rfl (by decide) ⟨rfl, rfl, rfl, rfl⟩ uw_X6 tyX6_ok nmX6 (ty := .int) (by decide +kernel) rfl rfl (Nat.le_of_ble_eq_true rfl) rfl hl hd k
theorem x_get_X6_lastFault (hE : KE (xw ad ta sa ca D cI cT cS) G H0 m cc own nL R) {idx : Nat} {z : Int} (hz : st.1 9 = z) (hl : Cond.fieldLink own idx "BarrelTaps" "lastFault" "I" ∈ lw_gt) (hd : decode cc pc = .ok (.getfield idx, 3)) (k : KW (xw ad ta sa ca D cI cT cS) G H0 m nL st (pc + 3) lo (.int (iI z) :: sk)) : KW (xw ad ta sa ca D cI cT cS) G H0 m nL st pc lo (.ref (ad 0) :: sk) := by
  subst hz; exact k_get hE 0 5 5 rfl rfl (by decide) ⟨rfl, rfl, rfl⟩ uw_X6 rfl hl hd k
theorem x_put_X6_lastFault (hE : KE (xw ad ta sa ca D cI cT cS) G H0 m cc own nL R) {idx : Nat} {z : Int} (hl : Cond.fieldLink own idx "BarrelTaps" "lastFault" "I" ∈ lw_gt) (hd : decode cc pc = .ok (.putfield idx, 3)) (k : KW (xw ad ta sa ca D cI cT cS) G H0 m nL (uv st.1 9 z, st.2) (pc + 3) lo sk) : KW (xw ad ta sa ca D cI cT cS) G H0 m nL st pc lo (.int (iI z) :: .ref (ad 0) :: sk) :=
  k_put hE 0 5 5 rfl rfl (by decide) ⟨rfl, rfl, rfl, rfl⟩ uw_X6 tyX6_ok nmX6 (ty := .int) (by decide +kernel) rfl rfl (Nat.le_of_ble_eq_true rfl) rfl hl hd k
theorem x_get_X5_taps (hE : KE (xw ad ta sa ca D cI cT cS) G H0 m cc own nL R) {idx : Nat} (hl : Cond.fieldLink own idx "BarrelTaps$Yard" "taps" "[LBarrelTaps$Tap;" ∈ lw_gt) (hd : decode cc pc = .ok (.getfield idx, 3)) (k : KW (xw ad ta sa ca D cI cT cS) G H0 m nL st (pc + 3) lo (.ref (ad 2) :: sk)) : KW (xw ad ta sa ca D cI cT cS) G H0 m nL st pc lo (.ref (ad 1) :: sk) :=
  k_get hE 1 4 0 rfl rfl (by decide) ⟨rfl, rfl, rfl⟩ uw_X5 rfl hl hd k
theorem x_get_X5_rainOn (hE : KE (xw ad ta sa ca D cI cT cS) G H0 m cc own nL R) {idx : Nat} (hl : Cond.fieldLink own idx "BarrelTaps$Yard" "rainOn" "[I" ∈ lw_gt) (hd : decode cc pc = .ok (.getfield idx, 3)) (k : KW (xw ad ta sa ca D cI cT cS) G H0 m nL st (pc + 3) lo (.ref (ad 3) :: sk)) : KW (xw ad ta sa ca D cI cT cS) G H0 m nL st pc lo (.ref (ad 1) :: sk) :=
  k_get hE 1 4 1 rfl rfl (by decide) ⟨rfl, rfl, rfl⟩ uw_X5 rfl hl hd k
theorem x_get_X5_tapCount (hE : KE (xw ad ta sa ca D cI cT cS) G H0 m cc own nL R) {idx : Nat} {z : Int} (hz : st.1 0 = z) (hl : Cond.fieldLink own idx "BarrelTaps$Yard" "tapCount" "I" ∈ lw_gt) (hd : decode cc pc = .ok (.getfield idx, 3)) (k : KW (xw ad ta sa ca D cI cT cS) G H0 m nL st (pc + 3) lo (.int (iI z) :: sk)) : KW (xw ad ta sa ca D cI cT cS) G H0 m nL st pc lo (.ref (ad 1) :: sk) := by
  subst hz; exact k_get hE 1 4 2 rfl rfl (by decide) ⟨rfl, rfl, rfl⟩ uw_X5 rfl hl hd k
theorem x_put_X5_tapCount (hE : KE (xw ad ta sa ca D cI cT cS) G H0 m cc own nL R) {idx : Nat} {z : Int} (hl : Cond.fieldLink own idx "BarrelTaps$Yard" "tapCount" "I" ∈ lw_gt) (hd : decode cc pc = .ok (.putfield idx, 3)) (k : KW (xw ad ta sa ca D cI cT cS) G H0 m nL (uv st.1 0 z, st.2) (pc + 3) lo sk) : KW (xw ad ta sa ca D cI cT cS) G H0 m nL st pc lo (.int (iI z) :: .ref (ad 1) :: sk) :=
  k_put hE 1 4 2 rfl rfl (by decide) ⟨rfl, rfl, rfl, rfl⟩ uw_X5 tyX5_ok nmX5 (ty := .int) (by decide +kernel) rfl rfl (Nat.le_of_ble_eq_true rfl) rfl hl hd k
theorem x_get_X5_cap (hE : KE (xw ad ta sa ca D cI cT cS) G H0 m cc own nL R) {idx : Nat} {z : Int} (hz : st.1 1 = z) (hl : Cond.fieldLink own idx "BarrelTaps$Yard" "cap" "I" ∈ lw_gt) (hd : decode cc pc = .ok (.getfield idx, 3)) (k : KW (xw ad ta sa ca D cI cT cS) G H0 m nL st (pc + 3) lo (.int (iI z) :: sk)) : KW (xw ad ta sa ca D cI cT cS) G H0 m nL st pc lo (.ref (ad 1) :: sk) := by
  subst hz; exact k_get hE 1 4 3 rfl rfl (by decide) ⟨rfl, rfl, rfl⟩ uw_X5 rfl hl hd k
theorem x_put_X5_cap (hE : KE (xw ad ta sa ca D cI cT cS) G H0 m cc own nL R) {idx : Nat} {z : Int} (hl : Cond.fieldLink own idx "BarrelTaps$Yard" "cap" "I" ∈ lw_gt) (hd : decode cc pc = .ok (.putfield idx, 3)) (k : KW (xw ad ta sa ca D cI cT cS) G H0 m nL (uv st.1 1 z, st.2) (pc + 3) lo sk) : KW (xw ad ta sa ca D cI cT cS) G H0 m nL st pc lo (.int (iI z) :: .ref (ad 1) :: sk) :=
  k_put hE 1 4 3 rfl rfl (by decide) ⟨rfl, rfl, rfl, rfl⟩ uw_X5 tyX5_ok nmX5 (ty := .int) (by decide +kernel) rfl rfl (Nat.le_of_ble_eq_true rfl) rfl hl hd k
theorem x_get_X5_per (hE : KE (xw ad ta sa ca D cI cT cS) G H0 m cc own nL R) {idx : Nat} {z : Int} (hz : st.1 2 = z) (hl : Cond.fieldLink own idx "BarrelTaps$Yard" "per" "I" ∈ lw_gt) (hd : decode cc pc = .ok (.getfield idx, 3)) (k : KW (xw ad ta sa ca D cI cT cS) G H0 m nL st (pc + 3) lo (.int (iI z) :: sk)) : KW (xw ad ta sa ca D cI cT cS) G H0 m nL st pc lo (.ref (ad 1) :: sk) := by
  subst hz; exact k_get hE 1 4 4 rfl rfl (by decide) ⟨rfl, rfl, rfl⟩ uw_X5 rfl hl hd k
theorem x_put_X5_per (hE : KE (xw ad ta sa ca D cI cT cS) G H0 m cc own nL R) {idx : Nat} {z : Int} (hl : Cond.fieldLink own idx "BarrelTaps$Yard" "per" "I" ∈ lw_gt) (hd : decode cc pc = .ok (.putfield idx, 3)) (k : KW (xw ad ta sa ca D cI cT cS) G H0 m nL (uv st.1 2 z, st.2) (pc + 3) lo sk) : KW (xw ad ta sa ca D cI cT cS) G H0 m nL st pc lo (.int (iI z) :: .ref (ad 1) :: sk) :=
  k_put hE 1 4 4 rfl rfl (by decide) ⟨rfl, rfl, rfl, rfl⟩ uw_X5 tyX5_ok nmX5 (ty := .int) (by decide +kernel) rfl rfl (Nat.le_of_ble_eq_true rfl) rfl hl hd k
theorem x_get_X5_firstWater (hE : KE (xw ad ta sa ca D cI cT cS) G H0 m cc own nL R) {idx : Nat} {z : Int} (hz : st.1 3 = z) (hl : Cond.fieldLink own idx "BarrelTaps$Yard" "firstWater" "I" ∈ lw_gt) (hd : decode cc pc = .ok (.getfield idx, 3)) (k : KW (xw ad ta sa ca D cI cT cS) G H0 m nL st (pc + 3) lo (.int (iI z) :: sk)) : KW (xw ad ta sa ca D cI cT cS) G H0 m nL st pc lo (.ref (ad 1) :: sk) := by
  subst hz; exact k_get hE 1 4 5 rfl rfl (by decide) ⟨rfl, rfl, rfl⟩ uw_X5 rfl hl hd k
theorem x_put_X5_firstWater (hE : KE (xw ad ta sa ca D cI cT cS) G H0 m cc own nL R) {idx : Nat} {z : Int} (hl : Cond.fieldLink own idx "BarrelTaps$Yard" "firstWater" "I" ∈ lw_gt) (hd : decode cc pc = .ok (.putfield idx, 3)) (k : KW (xw ad ta sa ca D cI cT cS) G H0 m nL (uv st.1 3 z, st.2) (pc + 3) lo sk) : KW (xw ad ta sa ca D cI cT cS) G H0 m nL st pc lo (.int (iI z) :: .ref (ad 1) :: sk) :=
  k_put hE 1 4 5 rfl rfl (by decide) ⟨rfl, rfl, rfl, rfl⟩ uw_X5 tyX5_ok nmX5 (ty := .int) (by decide +kernel) rfl rfl (Nat.le_of_ble_eq_true rfl) rfl hl hd k
theorem x_get_X5_rule (hE : KE (xw ad ta sa ca D cI cT cS) G H0 m cc own nL R) {idx : Nat} {z : Int} (hz : st.1 4 = z) (hl : Cond.fieldLink own idx "BarrelTaps$Yard" "rule" "I" ∈ lw_gt) (hd : decode cc pc = .ok (.getfield idx, 3)) (k : KW (xw ad ta sa ca D cI cT cS) G H0 m nL st (pc + 3) lo (.int (iI z) :: sk)) : KW (xw ad ta sa ca D cI cT cS) G H0 m nL st pc lo (.ref (ad 1) :: sk) := by
  subst hz; exact k_get hE 1 4 6 rfl rfl (by decide) ⟨rfl, rfl, rfl⟩ uw_X5 rfl hl hd k
theorem x_put_X5_rule (hE : KE (xw ad ta sa ca D cI cT cS) G H0 m cc own nL R) {idx : Nat} {z : Int} (hl : Cond.fieldLink own idx "BarrelTaps$Yard" "rule" "I" ∈ lw_gt) (hd : decode cc pc = .ok (.putfield idx, 3)) (k : KW (xw ad ta sa ca D cI cT cS) G H0 m nL (uv st.1 4 z, st.2) (pc + 3) lo sk) : KW (xw ad ta sa ca D cI cT cS) G H0 m nL st pc lo (.int (iI z) :: .ref (ad 1) :: sk) :=
  k_put hE 1 4 6 rfl rfl (by decide) ⟨rfl, rfl, rfl, rfl⟩ uw_X5 tyX5_ok nmX5 (ty := .int) (by decide +kernel) rfl rfl (Nat.le_of_ble_eq_true rfl) rfl hl hd k
theorem x_get_X5_leakHeight (hE : KE (xw ad ta sa ca D cI cT cS) G H0 m cc own nL R) {idx : Nat} {z : Int} (hz : st.1 5 = z) (hl : Cond.fieldLink own idx "BarrelTaps$Yard" "leakHeight" "I" ∈ lw_gt) (hd : decode cc pc = .ok (.getfield idx, 3)) (k : KW (xw ad ta sa ca D cI cT cS) G H0 m nL st (pc + 3) lo (.int (iI z) :: sk)) : KW (xw ad ta sa ca D cI cT cS) G H0 m nL st pc lo (.ref (ad 1) :: sk) := by
  subst hz; exact k_get hE 1 4 7 rfl rfl (by decide) ⟨rfl, rfl, rfl⟩ uw_X5 rfl hl hd k
theorem x_put_X5_leakHeight (hE : KE (xw ad ta sa ca D cI cT cS) G H0 m cc own nL R) {idx : Nat} {z : Int} (hl : Cond.fieldLink own idx "BarrelTaps$Yard" "leakHeight" "I" ∈ lw_gt) (hd : decode cc pc = .ok (.putfield idx, 3)) (k : KW (xw ad ta sa ca D cI cT cS) G H0 m nL (uv st.1 5 z, st.2) (pc + 3) lo sk) : KW (xw ad ta sa ca D cI cT cS) G H0 m nL st pc lo (.int (iI z) :: .ref (ad 1) :: sk) :=
  k_put hE 1 4 7 rfl rfl (by decide) ⟨rfl, rfl, rfl, rfl⟩ uw_X5 tyX5_ok nmX5 (ty := .int) (by decide +kernel) rfl rfl (Nat.le_of_ble_eq_true rfl) rfl hl hd k
theorem x_get_X5_leakPails (hE : KE (xw ad ta sa ca D cI cT cS) G H0 m cc own nL R) {idx : Nat} {z : Int} (hz : st.1 6 = z) (hl : Cond.fieldLink own idx "BarrelTaps$Yard" "leakPails" "I" ∈ lw_gt) (hd : decode cc pc = .ok (.getfield idx, 3)) (k : KW (xw ad ta sa ca D cI cT cS) G H0 m nL st (pc + 3) lo (.int (iI z) :: sk)) : KW (xw ad ta sa ca D cI cT cS) G H0 m nL st pc lo (.ref (ad 1) :: sk) := by
  subst hz; exact k_get hE 1 4 8 rfl rfl (by decide) ⟨rfl, rfl, rfl⟩ uw_X5 rfl hl hd k
theorem x_put_X5_leakPails (hE : KE (xw ad ta sa ca D cI cT cS) G H0 m cc own nL R) {idx : Nat} {z : Int} (hl : Cond.fieldLink own idx "BarrelTaps$Yard" "leakPails" "I" ∈ lw_gt) (hd : decode cc pc = .ok (.putfield idx, 3)) (k : KW (xw ad ta sa ca D cI cT cS) G H0 m nL (uv st.1 6 z, st.2) (pc + 3) lo sk) : KW (xw ad ta sa ca D cI cT cS) G H0 m nL st pc lo (.int (iI z) :: .ref (ad 1) :: sk) :=
  k_put hE 1 4 8 rfl rfl (by decide) ⟨rfl, rfl, rfl, rfl⟩ uw_X5 tyX5_ok nmX5 (ty := .int) (by decide +kernel) rfl rfl (Nat.le_of_ble_eq_true rfl) rfl hl hd k
theorem x_get_X0_levels (hE : KE (xw ad ta sa ca D cI cT cS) G H0 m cc own nL R) {idx : Nat} (hl : Cond.fieldLink own idx "BarrelTaps$Days" "levels" "[I" ∈ lw_gt) (hd : decode cc pc = .ok (.getfield idx, 3)) (k : KW (xw ad ta sa ca D cI cT cS) G H0 m nL st (pc + 3) lo (.ref (ad 5) :: sk)) : KW (xw ad ta sa ca D cI cT cS) G H0 m nL st pc lo (.ref (ad 4) :: sk) :=
  k_get hE 4 0 0 rfl rfl (by decide) ⟨rfl, rfl, rfl⟩ uw_X0 rfl hl hd k
theorem x_get_X0_overs (hE : KE (xw ad ta sa ca D cI cT cS) G H0 m cc own nL R) {idx : Nat} (hl : Cond.fieldLink own idx "BarrelTaps$Days" "overs" "[I" ∈ lw_gt) (hd : decode cc pc = .ok (.getfield idx, 3)) (k : KW (xw ad ta sa ca D cI cT cS) G H0 m nL st (pc + 3) lo (.ref (ad 6) :: sk)) : KW (xw ad ta sa ca D cI cT cS) G H0 m nL st pc lo (.ref (ad 4) :: sk) :=
  k_get hE 4 0 1 rfl rfl (by decide) ⟨rfl, rfl, rfl⟩ uw_X0 rfl hl hd k
theorem x_get_X0_yard (hE : KE (xw ad ta sa ca D cI cT cS) G H0 m cc own nL R) {idx : Nat} (hl : Cond.fieldLink own idx "BarrelTaps$Days" "yard" "LBarrelTaps$Yard;" ∈ lw_gt) (hd : decode cc pc = .ok (.getfield idx, 3)) (k : KW (xw ad ta sa ca D cI cT cS) G H0 m nL st (pc + 3) lo (.ref (ad 1) :: sk)) : KW (xw ad ta sa ca D cI cT cS) G H0 m nL st pc lo (.ref (ad 4) :: sk) :=
  k_get hE 4 0 2 rfl rfl (by decide) ⟨rfl, rfl, rfl⟩ uw_X0 rfl hl hd k
theorem x_get_X0_drawn (hE : KE (xw ad ta sa ca D cI cT cS) G H0 m cc own nL R) {idx : Nat} (hl : Cond.fieldLink own idx "BarrelTaps$Days" "drawn" "[I" ∈ lw_gt) (hd : decode cc pc = .ok (.getfield idx, 3)) (k : KW (xw ad ta sa ca D cI cT cS) G H0 m nL st (pc + 3) lo (.ref (ad 7) :: sk)) : KW (xw ad ta sa ca D cI cT cS) G H0 m nL st pc lo (.ref (ad 4) :: sk) :=
  k_get hE 4 0 3 rfl rfl (by decide) ⟨rfl, rfl, rfl⟩ uw_X0 rfl hl hd k
theorem x_get_X0_order (hE : KE (xw ad ta sa ca D cI cT cS) G H0 m cc own nL R) {idx : Nat} (hl : Cond.fieldLink own idx "BarrelTaps$Days" "order" "[I" ∈ lw_gt) (hd : decode cc pc = .ok (.getfield idx, 3)) (k : KW (xw ad ta sa ca D cI cT cS) G H0 m nL st (pc + 3) lo (.ref (ad 8) :: sk)) : KW (xw ad ta sa ca D cI cT cS) G H0 m nL st pc lo (.ref (ad 4) :: sk) :=
  k_get hE 4 0 4 rfl rfl (by decide) ⟨rfl, rfl, rfl⟩ uw_X0 rfl hl hd k
theorem x_get_X0_rule (hE : KE (xw ad ta sa ca D cI cT cS) G H0 m cc own nL R) {idx : Nat} {z : Int} (hz : st.1 10 = z) (hl : Cond.fieldLink own idx "BarrelTaps$Days" "rule" "I" ∈ lw_gt) (hd : decode cc pc = .ok (.getfield idx, 3)) (k : KW (xw ad ta sa ca D cI cT cS) G H0 m nL st (pc + 3) lo (.int (iI z) :: sk)) : KW (xw ad ta sa ca D cI cT cS) G H0 m nL st pc lo (.ref (ad 4) :: sk) := by
  subst hz; exact k_get hE 4 0 5 rfl rfl (by decide) ⟨rfl, rfl, rfl⟩ uw_X0 rfl hl hd k
theorem x_put_X0_rule (hE : KE (xw ad ta sa ca D cI cT cS) G H0 m cc own nL R) {idx : Nat} {z : Int} (hl : Cond.fieldLink own idx "BarrelTaps$Days" "rule" "I" ∈ lw_gt) (hd : decode cc pc = .ok (.putfield idx, 3)) (k : KW (xw ad ta sa ca D cI cT cS) G H0 m nL (uv st.1 10 z, st.2) (pc + 3) lo sk) : KW (xw ad ta sa ca D cI cT cS) G H0 m nL st pc lo (.int (iI z) :: .ref (ad 4) :: sk) :=
  k_put hE 4 0 5 rfl rfl (by decide) ⟨rfl, rfl, rfl, rfl⟩ uw_X0 tyX0_ok nmX0 (ty := .int) (by decide +kernel) rfl rfl (Nat.le_of_ble_eq_true rfl) rfl hl hd k
theorem x_get_X1_day (hE : KE (xw ad ta sa ca D cI cT cS) G H0 m cc own nL R) {idx : Nat} (hl : Cond.fieldLink own idx "BarrelTaps$Marks" "day" "[I" ∈ lw_gt) (hd : decode cc pc = .ok (.getfield idx, 3)) (k : KW (xw ad ta sa ca D cI cT cS) G H0 m nL st (pc + 3) lo (.ref (ad 10) :: sk)) : KW (xw ad ta sa ca D cI cT cS) G H0 m nL st pc lo (.ref (ad 9) :: sk) :=
  k_get hE 9 1 0 rfl rfl (by decide) ⟨rfl, rfl, rfl⟩ uw_X1 rfl hl hd k
theorem x_get_X1_height (hE : KE (xw ad ta sa ca D cI cT cS) G H0 m cc own nL R) {idx : Nat} (hl : Cond.fieldLink own idx "BarrelTaps$Marks" "height" "[I" ∈ lw_gt) (hd : decode cc pc = .ok (.getfield idx, 3)) (k : KW (xw ad ta sa ca D cI cT cS) G H0 m nL st (pc + 3) lo (.ref (ad 11) :: sk)) : KW (xw ad ta sa ca D cI cT cS) G H0 m nL st pc lo (.ref (ad 9) :: sk) :=
  k_get hE 9 1 1 rfl rfl (by decide) ⟨rfl, rfl, rfl⟩ uw_X1 rfl hl hd k
theorem x_get_X1_count (hE : KE (xw ad ta sa ca D cI cT cS) G H0 m cc own nL R) {idx : Nat} {z : Int} (hz : st.1 7 = z) (hl : Cond.fieldLink own idx "BarrelTaps$Marks" "count" "I" ∈ lw_gt) (hd : decode cc pc = .ok (.getfield idx, 3)) (k : KW (xw ad ta sa ca D cI cT cS) G H0 m nL st (pc + 3) lo (.int (iI z) :: sk)) : KW (xw ad ta sa ca D cI cT cS) G H0 m nL st pc lo (.ref (ad 9) :: sk) := by
  subst hz; exact k_get hE 9 1 2 rfl rfl (by decide) ⟨rfl, rfl, rfl⟩ uw_X1 rfl hl hd k
theorem x_put_X1_count (hE : KE (xw ad ta sa ca D cI cT cS) G H0 m cc own nL R) {idx : Nat} {z : Int} (hl : Cond.fieldLink own idx "BarrelTaps$Marks" "count" "I" ∈ lw_gt) (hd : decode cc pc = .ok (.putfield idx, 3)) (k : KW (xw ad ta sa ca D cI cT cS) G H0 m nL (uv st.1 7 z, st.2) (pc + 3) lo sk) : KW (xw ad ta sa ca D cI cT cS) G H0 m nL st pc lo (.int (iI z) :: .ref (ad 9) :: sk) :=
  k_put hE 9 1 2 rfl rfl (by decide) ⟨rfl, rfl, rfl, rfl⟩ uw_X1 tyX1_ok nmX1 (ty := .int) (by decide +kernel) rfl rfl (Nat.le_of_ble_eq_true rfl) rfl hl hd k
theorem x_ld_rainOn (hE : KE (xw ad ta sa ca D cI cT cS) G H0 m cc own nL R) {i z : Int} (h0 : 0 ≤ i) (h1 : i < 10) (hz : st.2 4 i = z) (hd : decode cc pc = .ok (.iaload, 1)) (k : KW (xw ad ta sa ca D cI cT cS) G H0 m nL st (pc + 1) lo (.int (iI z) :: sk)) : KW (xw ad ta sa ca D cI cT cS) G H0 m nL st pc lo (.int (iI i) :: .ref (ad 3) :: sk) :=
  k_iald hE 3 0 rfl rfl (by decide) h0 h1 (rI_at h0 hz) hd k
theorem x_st_rainOn (hE : KE (xw ad ta sa ca D cI cT cS) G H0 m cc own nL R) {i z : Int} (h0 : 0 ≤ i) (h1 : i < 10) (hd : decode cc pc = .ok (.iastore, 1)) (k : KW (xw ad ta sa ca D cI cT cS) G H0 m nL (st.1, ur st.2 4 i z) (pc + 1) lo sk) : KW (xw ad ta sa ca D cI cT cS) G H0 m nL st pc lo (.int (iI z) :: .int (iI i) :: .ref (ad 3) :: sk) :=
  k_iast hE 3 0 rfl rfl (by decide) h0 h1 (by rw [rI_up h0]; rfl) hd k
theorem x_ld_levels (hE : KE (xw ad ta sa ca D cI cT cS) G H0 m cc own nL R) {i z : Int} (h0 : 0 ≤ i) (h1 : i < 11) (hz : st.2 9 i = z) (hd : decode cc pc = .ok (.iaload, 1)) (k : KW (xw ad ta sa ca D cI cT cS) G H0 m nL st (pc + 1) lo (.int (iI z) :: sk)) : KW (xw ad ta sa ca D cI cT cS) G H0 m nL st pc lo (.int (iI i) :: .ref (ad 5) :: sk) :=
  k_iald hE 5 0 rfl rfl (by decide) h0 h1 (rI_at h0 hz) hd k
theorem x_st_levels (hE : KE (xw ad ta sa ca D cI cT cS) G H0 m cc own nL R) {i z : Int} (h0 : 0 ≤ i) (h1 : i < 11) (hd : decode cc pc = .ok (.iastore, 1)) (k : KW (xw ad ta sa ca D cI cT cS) G H0 m nL (st.1, ur st.2 9 i z) (pc + 1) lo sk) : KW (xw ad ta sa ca D cI cT cS) G H0 m nL st pc lo (.int (iI z) :: .int (iI i) :: .ref (ad 5) :: sk) :=
  k_iast hE 5 0 rfl rfl (by decide) h0 h1 (by rw [rI_up h0]; rfl) hd k
theorem x_ld_overs (hE : KE (xw ad ta sa ca D cI cT cS) G H0 m cc own nL R) {i z : Int} (h0 : 0 ≤ i) (h1 : i < 10) (hz : st.2 10 i = z) (hd : decode cc pc = .ok (.iaload, 1)) (k : KW (xw ad ta sa ca D cI cT cS) G H0 m nL st (pc + 1) lo (.int (iI z) :: sk)) : KW (xw ad ta sa ca D cI cT cS) G H0 m nL st pc lo (.int (iI i) :: .ref (ad 6) :: sk) :=
  k_iald hE 6 0 rfl rfl (by decide) h0 h1 (rI_at h0 hz) hd k
theorem x_st_overs (hE : KE (xw ad ta sa ca D cI cT cS) G H0 m cc own nL R) {i z : Int} (h0 : 0 ≤ i) (h1 : i < 10) (hd : decode cc pc = .ok (.iastore, 1)) (k : KW (xw ad ta sa ca D cI cT cS) G H0 m nL (st.1, ur st.2 10 i z) (pc + 1) lo sk) : KW (xw ad ta sa ca D cI cT cS) G H0 m nL st pc lo (.int (iI z) :: .int (iI i) :: .ref (ad 6) :: sk) :=
  k_iast hE 6 0 rfl rfl (by decide) h0 h1 (by rw [rI_up h0]; rfl) hd k
theorem x_ld_drawn (hE : KE (xw ad ta sa ca D cI cT cS) G H0 m cc own nL R) {i z : Int} (h0 : 0 ≤ i) (h1 : i < 60) (hz : st.2 11 i = z) (hd : decode cc pc = .ok (.iaload, 1)) (k : KW (xw ad ta sa ca D cI cT cS) G H0 m nL st (pc + 1) lo (.int (iI z) :: sk)) : KW (xw ad ta sa ca D cI cT cS) G H0 m nL st pc lo (.int (iI i) :: .ref (ad 7) :: sk) :=
  k_iald hE 7 0 rfl rfl (by decide) h0 h1 (rI_at h0 hz) hd k
theorem x_st_drawn (hE : KE (xw ad ta sa ca D cI cT cS) G H0 m cc own nL R) {i z : Int} (h0 : 0 ≤ i) (h1 : i < 60) (hd : decode cc pc = .ok (.iastore, 1)) (k : KW (xw ad ta sa ca D cI cT cS) G H0 m nL (st.1, ur st.2 11 i z) (pc + 1) lo sk) : KW (xw ad ta sa ca D cI cT cS) G H0 m nL st pc lo (.int (iI z) :: .int (iI i) :: .ref (ad 7) :: sk) :=
  k_iast hE 7 0 rfl rfl (by decide) h0 h1 (by rw [rI_up h0]; rfl) hd k
theorem x_ld_order (hE : KE (xw ad ta sa ca D cI cT cS) G H0 m cc own nL R) {i z : Int} (h0 : 0 ≤ i) (h1 : i < 6) (hz : st.2 12 i = z) (hd : decode cc pc = .ok (.iaload, 1)) (k : KW (xw ad ta sa ca D cI cT cS) G H0 m nL st (pc + 1) lo (.int (iI z) :: sk)) : KW (xw ad ta sa ca D cI cT cS) G H0 m nL st pc lo (.int (iI i) :: .ref (ad 8) :: sk) :=
  k_iald hE 8 0 rfl rfl (by decide) h0 h1 (rI_at h0 hz) hd k
theorem x_st_order (hE : KE (xw ad ta sa ca D cI cT cS) G H0 m cc own nL R) {i z : Int} (h0 : 0 ≤ i) (h1 : i < 6) (hd : decode cc pc = .ok (.iastore, 1)) (k : KW (xw ad ta sa ca D cI cT cS) G H0 m nL (st.1, ur st.2 12 i z) (pc + 1) lo sk) : KW (xw ad ta sa ca D cI cT cS) G H0 m nL st pc lo (.int (iI z) :: .int (iI i) :: .ref (ad 8) :: sk) :=
  k_iast hE 8 0 rfl rfl (by decide) h0 h1 (by rw [rI_up h0]; rfl) hd k
theorem x_ld_mday (hE : KE (xw ad ta sa ca D cI cT cS) G H0 m cc own nL R) {i z : Int} (h0 : 0 ≤ i) (h1 : i < 8) (hz : st.2 5 i = z) (hd : decode cc pc = .ok (.iaload, 1)) (k : KW (xw ad ta sa ca D cI cT cS) G H0 m nL st (pc + 1) lo (.int (iI z) :: sk)) : KW (xw ad ta sa ca D cI cT cS) G H0 m nL st pc lo (.int (iI i) :: .ref (ad 10) :: sk) :=
  k_iald hE 10 0 rfl rfl (by decide) h0 h1 (rI_at h0 hz) hd k
theorem x_st_mday (hE : KE (xw ad ta sa ca D cI cT cS) G H0 m cc own nL R) {i z : Int} (h0 : 0 ≤ i) (h1 : i < 8) (hd : decode cc pc = .ok (.iastore, 1)) (k : KW (xw ad ta sa ca D cI cT cS) G H0 m nL (st.1, ur st.2 5 i z) (pc + 1) lo sk) : KW (xw ad ta sa ca D cI cT cS) G H0 m nL st pc lo (.int (iI z) :: .int (iI i) :: .ref (ad 10) :: sk) :=
  k_iast hE 10 0 rfl rfl (by decide) h0 h1 (by rw [rI_up h0]; rfl) hd k
theorem x_ld_mheight (hE : KE (xw ad ta sa ca D cI cT cS) G H0 m cc own nL R) {i z : Int} (h0 : 0 ≤ i) (h1 : i < 8) (hz : st.2 6 i = z) (hd : decode cc pc = .ok (.iaload, 1)) (k : KW (xw ad ta sa ca D cI cT cS) G H0 m nL st (pc + 1) lo (.int (iI z) :: sk)) : KW (xw ad ta sa ca D cI cT cS) G H0 m nL st pc lo (.int (iI i) :: .ref (ad 11) :: sk) :=
  k_iald hE 11 0 rfl rfl (by decide) h0 h1 (rI_at h0 hz) hd k
theorem x_st_mheight (hE : KE (xw ad ta sa ca D cI cT cS) G H0 m cc own nL R) {i z : Int} (h0 : 0 ≤ i) (h1 : i < 8) (hd : decode cc pc = .ok (.iastore, 1)) (k : KW (xw ad ta sa ca D cI cT cS) G H0 m nL (st.1, ur st.2 6 i z) (pc + 1) lo sk) : KW (xw ad ta sa ca D cI cT cS) G H0 m nL st pc lo (.int (iI z) :: .int (iI i) :: .ref (ad 11) :: sk) :=
  k_iast hE 11 0 rfl rfl (by decide) h0 h1 (by rw [rI_up h0]; rfl) hd k
theorem x_ld_taps (hE : KE (xw ad ta sa ca D cI cT cS) G H0 m cc own nL R) {i : Int} (h0 : 0 ≤ i) (h1 : i < 6) (hd : decode cc pc = .ok (.aaload, 1)) (k : KW (xw ad ta sa ca D cI cT cS) G H0 m nL st (pc + 1) lo (.ref (ta i) :: sk)) : KW (xw ad ta sa ca D cI cT cS) G H0 m nL st pc lo (.int (iI i) :: .ref (ad 2) :: sk) :=
  k_aald hE 2 1 rfl rfl (by decide) h0 h1 (rA_at h0) hd k
theorem x_ld_sheets (hE : KE (xw ad ta sa ca D cI cT cS) G H0 m cc own nL R) {i : Int} (h0 : 0 ≤ i) (h1 : i < 4) (hd : decode cc pc = .ok (.aaload, 1)) (k : KW (xw ad ta sa ca D cI cT cS) G H0 m nL st (pc + 1) lo (.ref (sa i) :: sk)) : KW (xw ad ta sa ca D cI cT cS) G H0 m nL st pc lo (.int (iI i) :: .ref (ad 12) :: sk) :=
  k_aald hE 12 2 rfl rfl (by decide) h0 h1 (rA_at h0) hd k
theorem xW_tap {f : Int} (h0 : 0 ≤ f) (h1 : f < 6) : (xW ad ta sa ca cI cT cS st)[13 + f.toNat]? = some (ta f, .inr (3, [.int (iI (st.2 0 f)), .int (iI (st.2 1 f)), .int (iI (st.2 2 f)), .int (iI (st.2 3 f))])) := by
  rcases (show f = 0 ∨ f = 1 ∨ f = 2 ∨ f = 3 ∨ f = 4 ∨ f = 5 by omega) with rfl | rfl | rfl | rfl | rfl | rfl <;> rfl
theorem xW_sheet {f : Int} (h0 : 0 ≤ f) (h1 : f < 4) : (xW ad ta sa ca cI cT cS st)[19 + f.toNat]? = some (sa f, .inr (2, [.ref (ca f), .int (iI (st.2 7 f)), .int (iI (st.2 8 f))])) := by
  rcases (show f = 0 ∨ f = 1 ∨ f = 2 ∨ f = 3 by omega) with rfl | rfl | rfl | rfl <;> rfl
theorem xW_cells {f : Int} (h0 : 0 ≤ f) (h1 : f < 4) : (xW ad ta sa ca cI cT cS st)[23 + f.toNat]? = some (ca f, .inl (cI, 60, .inl (rI (st.2 (20 + f.toNat))))) := by
  rcases (show f = 0 ∨ f = 1 ∨ f = 2 ∨ f = 3 by omega) with rfl | rfl | rfl | rfl <;> rfl
theorem x_get_X3_kind (hE : KE (xw ad ta sa ca D cI cT cS) G H0 m cc own nL R) {idx : Nat} {f z : Int} (h0 : 0 ≤ f) (h1 : f < 6) (hz : st.2 0 f = z) (hl : Cond.fieldLink own idx "BarrelTaps$Tap" "kind" "I" ∈ lw_gt) (hd : decode cc pc = .ok (.getfield idx, 3)) (k : KW (xw ad ta sa ca D cI cT cS) G H0 m nL st (pc + 3) lo (.int (iI z) :: sk)) : KW (xw ad ta sa ca D cI cT cS) G H0 m nL st pc lo (.ref (ta f) :: sk) := by
  subst hz; exact k_get hE (13 + f.toNat) 3 0 (xW_tap h0 h1) rfl (by decide) ⟨rfl, rfl, rfl⟩ uw_X3 rfl hl hd k
theorem xW_tapset0 {f z : Int} (h0 : 0 ≤ f) (h1 : f < 6) : (xW ad ta sa ca cI cT cS st).set (13 + f.toNat) (ta f, .inr (3, ([.int (iI (st.2 0 f)), .int (iI (st.2 1 f)), .int (iI (st.2 2 f)), .int (iI (st.2 3 f))] : List Value).set 0 (.int (iI z)))) = xW ad ta sa ca cI cT cS (st.1, ur st.2 0 f z) := by
  rcases (show f = 0 ∨ f = 1 ∨ f = 2 ∨ f = 3 ∨ f = 4 ∨ f = 5 by omega) with rfl | rfl | rfl | rfl | rfl | rfl <;> rfl
theorem x_put_X3_kind (hE : KE (xw ad ta sa ca D cI cT cS) G H0 m cc own nL R) {idx : Nat} {f z : Int} (h0 : 0 ≤ f) (h1 : f < 6) (hl : Cond.fieldLink own idx "BarrelTaps$Tap" "kind" "I" ∈ lw_gt) (hd : decode cc pc = .ok (.putfield idx, 3)) (k : KW (xw ad ta sa ca D cI cT cS) G H0 m nL (st.1, ur st.2 0 f z) (pc + 3) lo sk) : KW (xw ad ta sa ca D cI cT cS) G H0 m nL st pc lo (.int (iI z) :: .ref (ta f) :: sk) :=
  k_put hE (13 + f.toNat) 3 0 (xW_tap h0 h1) rfl (by decide) ⟨rfl, rfl, rfl, rfl⟩ uw_X3 tyX3_ok nmX3 (ty := .int) (by decide +kernel) rfl rfl (Nat.le_of_ble_eq_true rfl) (xW_tapset0 h0 h1) hl hd k
theorem x_get_X3_height (hE : KE (xw ad ta sa ca D cI cT cS) G H0 m cc own nL R) {idx : Nat} {f z : Int} (h0 : 0 ≤ f) (h1 : f < 6) (hz : st.2 1 f = z) (hl : Cond.fieldLink own idx "BarrelTaps$Tap" "height" "I" ∈ lw_gt) (hd : decode cc pc = .ok (.getfield idx, 3)) (k : KW (xw ad ta sa ca D cI cT cS) G H0 m nL st (pc + 3) lo (.int (iI z) :: sk)) : KW (xw ad ta sa ca D cI cT cS) G H0 m nL st pc lo (.ref (ta f) :: sk) := by
  subst hz; exact k_get hE (13 + f.toNat) 3 1 (xW_tap h0 h1) rfl (by decide) ⟨rfl, rfl, rfl⟩ uw_X3 rfl hl hd k
theorem xW_tapset1 {f z : Int} (h0 : 0 ≤ f) (h1 : f < 6) : (xW ad ta sa ca cI cT cS st).set (13 + f.toNat) (ta f, .inr (3, ([.int (iI (st.2 0 f)), .int (iI (st.2 1 f)), .int (iI (st.2 2 f)), .int (iI (st.2 3 f))] : List Value).set 1 (.int (iI z)))) = xW ad ta sa ca cI cT cS (st.1, ur st.2 1 f z) := by
  rcases (show f = 0 ∨ f = 1 ∨ f = 2 ∨ f = 3 ∨ f = 4 ∨ f = 5 by omega) with rfl | rfl | rfl | rfl | rfl | rfl <;> rfl
theorem x_put_X3_height (hE : KE (xw ad ta sa ca D cI cT cS) G H0 m cc own nL R) {idx : Nat} {f z : Int} (h0 : 0 ≤ f) (h1 : f < 6) (hl : Cond.fieldLink own idx "BarrelTaps$Tap" "height" "I" ∈ lw_gt) (hd : decode cc pc = .ok (.putfield idx, 3)) (k : KW (xw ad ta sa ca D cI cT cS) G H0 m nL (st.1, ur st.2 1 f z) (pc + 3) lo sk) : KW (xw ad ta sa ca D cI cT cS) G H0 m nL st pc lo (.int (iI z) :: .ref (ta f) :: sk) :=
  k_put hE (13 + f.toNat) 3 1 (xW_tap h0 h1) rfl (by decide) ⟨rfl, rfl, rfl, rfl⟩ uw_X3 tyX3_ok nmX3 (ty := .int) (by decide +kernel) rfl rfl (Nat.le_of_ble_eq_true rfl) (xW_tapset1 h0 h1) hl hd k
theorem x_get_X3_need (hE : KE (xw ad ta sa ca D cI cT cS) G H0 m cc own nL R) {idx : Nat} {f z : Int} (h0 : 0 ≤ f) (h1 : f < 6) (hz : st.2 2 f = z) (hl : Cond.fieldLink own idx "BarrelTaps$Tap" "need" "I" ∈ lw_gt) (hd : decode cc pc = .ok (.getfield idx, 3)) (k : KW (xw ad ta sa ca D cI cT cS) G H0 m nL st (pc + 3) lo (.int (iI z) :: sk)) : KW (xw ad ta sa ca D cI cT cS) G H0 m nL st pc lo (.ref (ta f) :: sk) := by
  subst hz; exact k_get hE (13 + f.toNat) 3 2 (xW_tap h0 h1) rfl (by decide) ⟨rfl, rfl, rfl⟩ uw_X3 rfl hl hd k
theorem xW_tapset2 {f z : Int} (h0 : 0 ≤ f) (h1 : f < 6) : (xW ad ta sa ca cI cT cS st).set (13 + f.toNat) (ta f, .inr (3, ([.int (iI (st.2 0 f)), .int (iI (st.2 1 f)), .int (iI (st.2 2 f)), .int (iI (st.2 3 f))] : List Value).set 2 (.int (iI z)))) = xW ad ta sa ca cI cT cS (st.1, ur st.2 2 f z) := by
  rcases (show f = 0 ∨ f = 1 ∨ f = 2 ∨ f = 3 ∨ f = 4 ∨ f = 5 by omega) with rfl | rfl | rfl | rfl | rfl | rfl <;> rfl
theorem x_put_X3_need (hE : KE (xw ad ta sa ca D cI cT cS) G H0 m cc own nL R) {idx : Nat} {f z : Int} (h0 : 0 ≤ f) (h1 : f < 6) (hl : Cond.fieldLink own idx "BarrelTaps$Tap" "need" "I" ∈ lw_gt) (hd : decode cc pc = .ok (.putfield idx, 3)) (k : KW (xw ad ta sa ca D cI cT cS) G H0 m nL (st.1, ur st.2 2 f z) (pc + 3) lo sk) : KW (xw ad ta sa ca D cI cT cS) G H0 m nL st pc lo (.int (iI z) :: .ref (ta f) :: sk) :=
  k_put hE (13 + f.toNat) 3 2 (xW_tap h0 h1) rfl (by decide) ⟨rfl, rfl, rfl, rfl⟩ uw_X3 tyX3_ok nmX3 (ty := .int) (by decide +kernel) rfl rfl (Nat.le_of_ble_eq_true rfl) (xW_tapset2 h0 h1) hl hd k
theorem x_get_X3_speed (hE : KE (xw ad ta sa ca D cI cT cS) G H0 m cc own nL R) {idx : Nat} {f z : Int} (h0 : 0 ≤ f) (h1 : f < 6) (hz : st.2 3 f = z) (hl : Cond.fieldLink own idx "BarrelTaps$Tap" "speed" "I" ∈ lw_gt) (hd : decode cc pc = .ok (.getfield idx, 3)) (k : KW (xw ad ta sa ca D cI cT cS) G H0 m nL st (pc + 3) lo (.int (iI z) :: sk)) : KW (xw ad ta sa ca D cI cT cS) G H0 m nL st pc lo (.ref (ta f) :: sk) := by
  subst hz; exact k_get hE (13 + f.toNat) 3 3 (xW_tap h0 h1) rfl (by decide) ⟨rfl, rfl, rfl⟩ uw_X3 rfl hl hd k
theorem xW_tapset3 {f z : Int} (h0 : 0 ≤ f) (h1 : f < 6) : (xW ad ta sa ca cI cT cS st).set (13 + f.toNat) (ta f, .inr (3, ([.int (iI (st.2 0 f)), .int (iI (st.2 1 f)), .int (iI (st.2 2 f)), .int (iI (st.2 3 f))] : List Value).set 3 (.int (iI z)))) = xW ad ta sa ca cI cT cS (st.1, ur st.2 3 f z) := by
  rcases (show f = 0 ∨ f = 1 ∨ f = 2 ∨ f = 3 ∨ f = 4 ∨ f = 5 by omega) with rfl | rfl | rfl | rfl | rfl | rfl <;> rfl
theorem x_put_X3_speed (hE : KE (xw ad ta sa ca D cI cT cS) G H0 m cc own nL R) {idx : Nat} {f z : Int} (h0 : 0 ≤ f) (h1 : f < 6) (hl : Cond.fieldLink own idx "BarrelTaps$Tap" "speed" "I" ∈ lw_gt) (hd : decode cc pc = .ok (.putfield idx, 3)) (k : KW (xw ad ta sa ca D cI cT cS) G H0 m nL (st.1, ur st.2 3 f z) (pc + 3) lo sk) : KW (xw ad ta sa ca D cI cT cS) G H0 m nL st pc lo (.int (iI z) :: .ref (ta f) :: sk) :=
  k_put hE (13 + f.toNat) 3 3 (xW_tap h0 h1) rfl (by decide) ⟨rfl, rfl, rfl, rfl⟩ uw_X3 tyX3_ok nmX3 (ty := .int) (by decide +kernel) rfl rfl (Nat.le_of_ble_eq_true rfl) (xW_tapset3 h0 h1) hl hd k
theorem x_get_X2_cells (hE : KE (xw ad ta sa ca D cI cT cS) G H0 m cc own nL R) {idx : Nat} {f : Int} (h0 : 0 ≤ f) (h1 : f < 4) (hl : Cond.fieldLink own idx "BarrelTaps$Sheet" "cells" "[I" ∈ lw_gt) (hd : decode cc pc = .ok (.getfield idx, 3)) (k : KW (xw ad ta sa ca D cI cT cS) G H0 m nL st (pc + 3) lo (.ref (ca f) :: sk)) : KW (xw ad ta sa ca D cI cT cS) G H0 m nL st pc lo (.ref (sa f) :: sk) :=
  k_get hE (19 + f.toNat) 2 0 (xW_sheet h0 h1) rfl (by decide) ⟨rfl, rfl, rfl⟩ uw_X2 rfl hl hd k
theorem x_get_X2_lane (hE : KE (xw ad ta sa ca D cI cT cS) G H0 m cc own nL R) {idx : Nat} {f z : Int} (h0 : 0 ≤ f) (h1 : f < 4) (hz : st.2 7 f = z) (hl : Cond.fieldLink own idx "BarrelTaps$Sheet" "lane" "I" ∈ lw_gt) (hd : decode cc pc = .ok (.getfield idx, 3)) (k : KW (xw ad ta sa ca D cI cT cS) G H0 m nL st (pc + 3) lo (.int (iI z) :: sk)) : KW (xw ad ta sa ca D cI cT cS) G H0 m nL st pc lo (.ref (sa f) :: sk) := by
  subst hz; exact k_get hE (19 + f.toNat) 2 1 (xW_sheet h0 h1) rfl (by decide) ⟨rfl, rfl, rfl⟩ uw_X2 rfl hl hd k
theorem xW_sheetset1 {f z : Int} (h0 : 0 ≤ f) (h1 : f < 4) : (xW ad ta sa ca cI cT cS st).set (19 + f.toNat) (sa f, .inr (2, ([.ref (ca f), .int (iI (st.2 7 f)), .int (iI (st.2 8 f))] : List Value).set 1 (.int (iI z)))) = xW ad ta sa ca cI cT cS (st.1, ur st.2 7 f z) := by
  rcases (show f = 0 ∨ f = 1 ∨ f = 2 ∨ f = 3 by omega) with rfl | rfl | rfl | rfl <;> rfl
theorem x_put_X2_lane (hE : KE (xw ad ta sa ca D cI cT cS) G H0 m cc own nL R) {idx : Nat} {f z : Int} (h0 : 0 ≤ f) (h1 : f < 4) (hl : Cond.fieldLink own idx "BarrelTaps$Sheet" "lane" "I" ∈ lw_gt) (hd : decode cc pc = .ok (.putfield idx, 3)) (k : KW (xw ad ta sa ca D cI cT cS) G H0 m nL (st.1, ur st.2 7 f z) (pc + 3) lo sk) : KW (xw ad ta sa ca D cI cT cS) G H0 m nL st pc lo (.int (iI z) :: .ref (sa f) :: sk) :=
  k_put hE (19 + f.toNat) 2 1 (xW_sheet h0 h1) rfl (by decide) ⟨rfl, rfl, rfl, rfl⟩ uw_X2 tyX2_ok nmX2 (ty := .int) (by decide +kernel) rfl rfl (Nat.le_of_ble_eq_true rfl) (xW_sheetset1 h0 h1) hl hd k
theorem x_get_X2_size (hE : KE (xw ad ta sa ca D cI cT cS) G H0 m cc own nL R) {idx : Nat} {f z : Int} (h0 : 0 ≤ f) (h1 : f < 4) (hz : st.2 8 f = z) (hl : Cond.fieldLink own idx "BarrelTaps$Sheet" "size" "I" ∈ lw_gt) (hd : decode cc pc = .ok (.getfield idx, 3)) (k : KW (xw ad ta sa ca D cI cT cS) G H0 m nL st (pc + 3) lo (.int (iI z) :: sk)) : KW (xw ad ta sa ca D cI cT cS) G H0 m nL st pc lo (.ref (sa f) :: sk) := by
  subst hz; exact k_get hE (19 + f.toNat) 2 2 (xW_sheet h0 h1) rfl (by decide) ⟨rfl, rfl, rfl⟩ uw_X2 rfl hl hd k
theorem xW_sheetset2 {f z : Int} (h0 : 0 ≤ f) (h1 : f < 4) : (xW ad ta sa ca cI cT cS st).set (19 + f.toNat) (sa f, .inr (2, ([.ref (ca f), .int (iI (st.2 7 f)), .int (iI (st.2 8 f))] : List Value).set 2 (.int (iI z)))) = xW ad ta sa ca cI cT cS (st.1, ur st.2 8 f z) := by
  rcases (show f = 0 ∨ f = 1 ∨ f = 2 ∨ f = 3 by omega) with rfl | rfl | rfl | rfl <;> rfl
theorem x_put_X2_size (hE : KE (xw ad ta sa ca D cI cT cS) G H0 m cc own nL R) {idx : Nat} {f z : Int} (h0 : 0 ≤ f) (h1 : f < 4) (hl : Cond.fieldLink own idx "BarrelTaps$Sheet" "size" "I" ∈ lw_gt) (hd : decode cc pc = .ok (.putfield idx, 3)) (k : KW (xw ad ta sa ca D cI cT cS) G H0 m nL (st.1, ur st.2 8 f z) (pc + 3) lo sk) : KW (xw ad ta sa ca D cI cT cS) G H0 m nL st pc lo (.int (iI z) :: .ref (sa f) :: sk) :=
  k_put hE (19 + f.toNat) 2 2 (xW_sheet h0 h1) rfl (by decide) ⟨rfl, rfl, rfl, rfl⟩ uw_X2 tyX2_ok nmX2 (ty := .int) (by decide +kernel) rfl rfl (Nat.le_of_ble_eq_true rfl) (xW_sheetset2 h0 h1) hl hd k
theorem x_ld_cells (hE : KE (xw ad ta sa ca D cI cT cS) G H0 m cc own nL R) {f i z : Int} (hf0 : 0 ≤ f) (hf1 : f < 4) (h0 : 0 ≤ i) (h1 : i < 60) (hz : st.2 (20 + f.toNat) i = z) (hd : decode cc pc = .ok (.iaload, 1)) (k : KW (xw ad ta sa ca D cI cT cS) G H0 m nL st (pc + 1) lo (.int (iI z) :: sk)) : KW (xw ad ta sa ca D cI cT cS) G H0 m nL st pc lo (.int (iI i) :: .ref (ca f) :: sk) :=
  k_iald hE (23 + f.toNat) 0 (xW_cells hf0 hf1) rfl (by decide) h0 h1 (rI_at h0 hz) hd k
theorem xW_cellset {f i z : Int} (h0 : 0 ≤ f) (h1 : f < 4) : (xW ad ta sa ca cI cT cS st).set (23 + f.toNat) (ca f, .inl (cI, 60, .inl (rI (ur st.2 (20 + f.toNat) i z (20 + f.toNat))))) = xW ad ta sa ca cI cT cS (st.1, ur st.2 (20 + f.toNat) i z) := by
  rcases (show f = 0 ∨ f = 1 ∨ f = 2 ∨ f = 3 by omega) with rfl | rfl | rfl | rfl <;> rfl
theorem x_st_cells (hE : KE (xw ad ta sa ca D cI cT cS) G H0 m cc own nL R) {f i z : Int} (hf0 : 0 ≤ f) (hf1 : f < 4) (h0 : 0 ≤ i) (h1 : i < 60) (hd : decode cc pc = .ok (.iastore, 1)) (k : KW (xw ad ta sa ca D cI cT cS) G H0 m nL (st.1, ur st.2 (20 + f.toNat) i z) (pc + 1) lo sk) : KW (xw ad ta sa ca D cI cT cS) G H0 m nL st pc lo (.int (iI z) :: .int (iI i) :: .ref (ca f) :: sk) :=
  k_iast hE (23 + f.toNat) 0 (xW_cells hf0 hf1) rfl (by decide) h0 h1 (by rw [rI_up h0]; exact xW_cellset hf0 hf1) hd k
end XROWS
end
section
def mW (ad : Nat → Nat) (cI cZ : ClassId) (st : Sg) : va_W :=
  [(ad 0, .inr (6, [.int (iI (st.1 9)), .int (iI (st.1 8)), .ref (ad 1), .ref (ad 2), .ref (ad 3), .int (iI (st.1 0)), .int (iI (st.1 1)), .int (iI (st.1 2)), .ref (ad 4), .ref (ad 5), .ref (ad 6), .ref (ad 7), .int (iI (st.1 3)), .ref (ad 8), .int (iI (st.1 4)), .int (iI (st.1 5)), .int (iI (st.1 6)), .int (iI (st.1 10)), .int (iI (st.1 11)), .int (iI (st.1 12)), .int (iI (st.1 13)), .ref (ad 9), .ref (ad 10), .ref (ad 11), .ref (ad 12), .ref (ad 13), .ref (ad 14), .ref (ad 15), .int (iI (st.1 14)), .int (iI (st.1 15)), .int (iI (st.1 16)), .int (iI (st.1 17)), .int (iI (st.1 18)), .int (iI (st.1 19)), .ref (ad 16), .int (iI (st.1 7)), .ref (ad 17), .ref (ad 18)])),
   (ad 1, .inl (cI, 4, .inl (rI (st.2 9)))),
   (ad 2, .inl (cI, 4, .inl (rI (st.2 8)))),
   (ad 3, .inl (cI, 240, .inl (rI (st.2 13)))),
   (ad 4, .inl (cI, 6, .inl (rI (st.2 0)))),
   (ad 5, .inl (cI, 6, .inl (rI (st.2 1)))),
   (ad 6, .inl (cI, 6, .inl (rI (st.2 2)))),
   (ad 7, .inl (cI, 6, .inl (rI (st.2 3)))),
   (ad 8, .inl (cI, 10, .inl (rI (st.2 4)))),
   (ad 9, .inl (cI, 6, .inl (rI (st.2 10)))),
   (ad 10, .inl (cI, 18, .inl (rI (st.2 11)))),
   (ad 11, .inl (cI, 11, .inl (rI (st.2 12)))),
   (ad 12, .inl (cI, 60, .inl (rI (st.2 14)))),
   (ad 13, .inl (cI, 10, .inl (rI (st.2 15)))),
   (ad 14, .inl (cI, 6, .inl (rI (st.2 16)))),
   (ad 15, .inl (cZ, 6, .inl (rI (st.2 17)))),
   (ad 16, .inl (cI, 10, .inl (rI (st.2 18)))),
   (ad 17, .inl (cI, 8, .inl (rI (st.2 5)))),
   (ad 18, .inl (cI, 8, .inl (rI (st.2 6))))]

def mads (ad : Nat → Nat) : List Nat := [ad 0, ad 1, ad 2, ad 3, ad 4, ad 5, ad 6, ad 7, ad 8, ad 9, ad 10, ad 11, ad 12, ad 13, ad 14, ad 15, ad 16, ad 17, ad 18]

abbrev mw (ad : Nat → Nat) (D : va_G) (cI cZ : ClassId) : WD Sg := (mW ad cI cZ, mads ad, D, [(cI, .int), (cZ, .boolean)])

section MROWS
variable {ad : Nat → Nat} {D : va_G} {cI cZ : ClassId} {G : Heap → List Loc → JFrame → Prop} {H0 : Heap} {m : MethodId} {cc : ByteArray} {own : String} {nL : Nat} {R : Room} {st : Sg} {pc : Nat} {lo : List (Nat × Value)} {sk : List Value}

theorem m_get_fault (hE : KE (mw ad D cI cZ) G H0 m cc own nL R) {idx : Nat} {z : Int} (hz : st.1 9 = z) (hl : Cond.fieldLink own idx "BarrelTapsModel" "fault" "I" ∈ lw_gt) (hd : decode cc pc = .ok (.getfield idx, 3)) (k : KW (mw ad D cI cZ) G H0 m nL st (pc + 3) lo (.int (iI z) :: sk)) : KW (mw ad D cI cZ) G H0 m nL st pc lo (.ref (ad 0) :: sk) := by
  subst hz; exact k_get hE 0 6 0 rfl rfl (by decide) ⟨rfl, rfl, rfl⟩ uw_X7 rfl hl hd k
theorem m_put_fault (hE : KE (mw ad D cI cZ) G H0 m cc own nL R) {idx : Nat} {z : Int} (hl : Cond.fieldLink own idx "BarrelTapsModel" "fault" "I" ∈ lw_gt) (hd : decode cc pc = .ok (.putfield idx, 3)) (k : KW (mw ad D cI cZ) G H0 m nL (uv st.1 9 z, st.2) (pc + 3) lo sk) : KW (mw ad D cI cZ) G H0 m nL st pc lo (.int (iI z) :: .ref (ad 0) :: sk) :=
  k_put hE 0 6 0 rfl rfl (by decide) ⟨rfl, rfl, rfl, rfl⟩ uw_X7 tyX7_ok nmX7 (ty := .int) (by decide +kernel) rfl rfl (Nat.le_of_ble_eq_true rfl) rfl hl hd k
theorem m_get_trace (hE : KE (mw ad D cI cZ) G H0 m cc own nL R) {idx : Nat} {z : Int} (hz : st.1 8 = z) (hl : Cond.fieldLink own idx "BarrelTapsModel" "trace" "I" ∈ lw_gt) (hd : decode cc pc = .ok (.getfield idx, 3)) (k : KW (mw ad D cI cZ) G H0 m nL st (pc + 3) lo (.int (iI z) :: sk)) : KW (mw ad D cI cZ) G H0 m nL st pc lo (.ref (ad 0) :: sk) := by
  subst hz; exact k_get hE 0 6 1 rfl rfl (by decide) ⟨rfl, rfl, rfl⟩ uw_X7 rfl hl hd k
theorem m_put_trace (hE : KE (mw ad D cI cZ) G H0 m cc own nL R) {idx : Nat} {z : Int} (hl : Cond.fieldLink own idx "BarrelTapsModel" "trace" "I" ∈ lw_gt) (hd : decode cc pc = .ok (.putfield idx, 3)) (k : KW (mw ad D cI cZ) G H0 m nL (uv st.1 8 z, st.2) (pc + 3) lo sk) : KW (mw ad D cI cZ) G H0 m nL st pc lo (.int (iI z) :: .ref (ad 0) :: sk) :=
  k_put hE 0 6 1 rfl rfl (by decide) ⟨rfl, rfl, rfl, rfl⟩ uw_X7 tyX7_ok nmX7 (ty := .int) (by decide +kernel) rfl rfl (Nat.le_of_ble_eq_true rfl) rfl hl hd k
theorem m_get_sorts (hE : KE (mw ad D cI cZ) G H0 m cc own nL R) {idx : Nat} (hl : Cond.fieldLink own idx "BarrelTapsModel" "sorts" "[I" ∈ lw_gt) (hd : decode cc pc = .ok (.getfield idx, 3)) (k : KW (mw ad D cI cZ) G H0 m nL st (pc + 3) lo (.ref (ad 1) :: sk)) : KW (mw ad D cI cZ) G H0 m nL st pc lo (.ref (ad 0) :: sk) :=
  k_get hE 0 6 2 rfl rfl (by decide) ⟨rfl, rfl, rfl⟩ uw_X7 rfl hl hd k
theorem m_ld_sorts (hE : KE (mw ad D cI cZ) G H0 m cc own nL R) {i z : Int} (h0 : 0 ≤ i) (h1 : i < 4) (hz : st.2 9 i = z) (hd : decode cc pc = .ok (.iaload, 1)) (k : KW (mw ad D cI cZ) G H0 m nL st (pc + 1) lo (.int (iI z) :: sk)) : KW (mw ad D cI cZ) G H0 m nL st pc lo (.int (iI i) :: .ref (ad 1) :: sk) :=
  k_iald hE 1 0 rfl rfl (by decide) h0 h1 (rI_at h0 hz) hd k
theorem m_st_sorts (hE : KE (mw ad D cI cZ) G H0 m cc own nL R) {i z : Int} (h0 : 0 ≤ i) (h1 : i < 4) (hd : decode cc pc = .ok (.iastore, 1)) (k : KW (mw ad D cI cZ) G H0 m nL (st.1, ur st.2 9 i z) (pc + 1) lo sk) : KW (mw ad D cI cZ) G H0 m nL st pc lo (.int (iI z) :: .int (iI i) :: .ref (ad 1) :: sk) :=
  k_iast hE 1 0 rfl rfl (by decide) h0 h1 (by rw [rI_up h0]; rfl) hd k
theorem m_get_sheetLong (hE : KE (mw ad D cI cZ) G H0 m cc own nL R) {idx : Nat} (hl : Cond.fieldLink own idx "BarrelTapsModel" "sheetLong" "[I" ∈ lw_gt) (hd : decode cc pc = .ok (.getfield idx, 3)) (k : KW (mw ad D cI cZ) G H0 m nL st (pc + 3) lo (.ref (ad 2) :: sk)) : KW (mw ad D cI cZ) G H0 m nL st pc lo (.ref (ad 0) :: sk) :=
  k_get hE 0 6 3 rfl rfl (by decide) ⟨rfl, rfl, rfl⟩ uw_X7 rfl hl hd k
theorem m_ld_sheetLong (hE : KE (mw ad D cI cZ) G H0 m cc own nL R) {i z : Int} (h0 : 0 ≤ i) (h1 : i < 4) (hz : st.2 8 i = z) (hd : decode cc pc = .ok (.iaload, 1)) (k : KW (mw ad D cI cZ) G H0 m nL st (pc + 1) lo (.int (iI z) :: sk)) : KW (mw ad D cI cZ) G H0 m nL st pc lo (.int (iI i) :: .ref (ad 2) :: sk) :=
  k_iald hE 2 0 rfl rfl (by decide) h0 h1 (rI_at h0 hz) hd k
theorem m_st_sheetLong (hE : KE (mw ad D cI cZ) G H0 m cc own nL R) {i z : Int} (h0 : 0 ≤ i) (h1 : i < 4) (hd : decode cc pc = .ok (.iastore, 1)) (k : KW (mw ad D cI cZ) G H0 m nL (st.1, ur st.2 8 i z) (pc + 1) lo sk) : KW (mw ad D cI cZ) G H0 m nL st pc lo (.int (iI z) :: .int (iI i) :: .ref (ad 2) :: sk) :=
  k_iast hE 2 0 rfl rfl (by decide) h0 h1 (by rw [rI_up h0]; rfl) hd k
theorem m_get_cells (hE : KE (mw ad D cI cZ) G H0 m cc own nL R) {idx : Nat} (hl : Cond.fieldLink own idx "BarrelTapsModel" "cells" "[I" ∈ lw_gt) (hd : decode cc pc = .ok (.getfield idx, 3)) (k : KW (mw ad D cI cZ) G H0 m nL st (pc + 3) lo (.ref (ad 3) :: sk)) : KW (mw ad D cI cZ) G H0 m nL st pc lo (.ref (ad 0) :: sk) :=
  k_get hE 0 6 4 rfl rfl (by decide) ⟨rfl, rfl, rfl⟩ uw_X7 rfl hl hd k
theorem m_ld_cells (hE : KE (mw ad D cI cZ) G H0 m cc own nL R) {i z : Int} (h0 : 0 ≤ i) (h1 : i < 240) (hz : st.2 13 i = z) (hd : decode cc pc = .ok (.iaload, 1)) (k : KW (mw ad D cI cZ) G H0 m nL st (pc + 1) lo (.int (iI z) :: sk)) : KW (mw ad D cI cZ) G H0 m nL st pc lo (.int (iI i) :: .ref (ad 3) :: sk) :=
  k_iald hE 3 0 rfl rfl (by decide) h0 h1 (rI_at h0 hz) hd k
theorem m_st_cells (hE : KE (mw ad D cI cZ) G H0 m cc own nL R) {i z : Int} (h0 : 0 ≤ i) (h1 : i < 240) (hd : decode cc pc = .ok (.iastore, 1)) (k : KW (mw ad D cI cZ) G H0 m nL (st.1, ur st.2 13 i z) (pc + 1) lo sk) : KW (mw ad D cI cZ) G H0 m nL st pc lo (.int (iI z) :: .int (iI i) :: .ref (ad 3) :: sk) :=
  k_iast hE 3 0 rfl rfl (by decide) h0 h1 (by rw [rI_up h0]; rfl) hd k
theorem m_get_taps (hE : KE (mw ad D cI cZ) G H0 m cc own nL R) {idx : Nat} {z : Int} (hz : st.1 0 = z) (hl : Cond.fieldLink own idx "BarrelTapsModel" "taps" "I" ∈ lw_gt) (hd : decode cc pc = .ok (.getfield idx, 3)) (k : KW (mw ad D cI cZ) G H0 m nL st (pc + 3) lo (.int (iI z) :: sk)) : KW (mw ad D cI cZ) G H0 m nL st pc lo (.ref (ad 0) :: sk) := by
  subst hz; exact k_get hE 0 6 5 rfl rfl (by decide) ⟨rfl, rfl, rfl⟩ uw_X7 rfl hl hd k
theorem m_put_taps (hE : KE (mw ad D cI cZ) G H0 m cc own nL R) {idx : Nat} {z : Int} (hl : Cond.fieldLink own idx "BarrelTapsModel" "taps" "I" ∈ lw_gt) (hd : decode cc pc = .ok (.putfield idx, 3)) (k : KW (mw ad D cI cZ) G H0 m nL (uv st.1 0 z, st.2) (pc + 3) lo sk) : KW (mw ad D cI cZ) G H0 m nL st pc lo (.int (iI z) :: .ref (ad 0) :: sk) :=
  k_put hE 0 6 5 rfl rfl (by decide) ⟨rfl, rfl, rfl, rfl⟩ uw_X7 tyX7_ok nmX7 (ty := .int) (by decide +kernel) rfl rfl (Nat.le_of_ble_eq_true rfl) rfl hl hd k
theorem m_get_cap (hE : KE (mw ad D cI cZ) G H0 m cc own nL R) {idx : Nat} {z : Int} (hz : st.1 1 = z) (hl : Cond.fieldLink own idx "BarrelTapsModel" "cap" "I" ∈ lw_gt) (hd : decode cc pc = .ok (.getfield idx, 3)) (k : KW (mw ad D cI cZ) G H0 m nL st (pc + 3) lo (.int (iI z) :: sk)) : KW (mw ad D cI cZ) G H0 m nL st pc lo (.ref (ad 0) :: sk) := by
  subst hz; exact k_get hE 0 6 6 rfl rfl (by decide) ⟨rfl, rfl, rfl⟩ uw_X7 rfl hl hd k
theorem m_put_cap (hE : KE (mw ad D cI cZ) G H0 m cc own nL R) {idx : Nat} {z : Int} (hl : Cond.fieldLink own idx "BarrelTapsModel" "cap" "I" ∈ lw_gt) (hd : decode cc pc = .ok (.putfield idx, 3)) (k : KW (mw ad D cI cZ) G H0 m nL (uv st.1 1 z, st.2) (pc + 3) lo sk) : KW (mw ad D cI cZ) G H0 m nL st pc lo (.int (iI z) :: .ref (ad 0) :: sk) :=
  k_put hE 0 6 6 rfl rfl (by decide) ⟨rfl, rfl, rfl, rfl⟩ uw_X7 tyX7_ok nmX7 (ty := .int) (by decide +kernel) rfl rfl (Nat.le_of_ble_eq_true rfl) rfl hl hd k
theorem m_get_per (hE : KE (mw ad D cI cZ) G H0 m cc own nL R) {idx : Nat} {z : Int} (hz : st.1 2 = z) (hl : Cond.fieldLink own idx "BarrelTapsModel" "per" "I" ∈ lw_gt) (hd : decode cc pc = .ok (.getfield idx, 3)) (k : KW (mw ad D cI cZ) G H0 m nL st (pc + 3) lo (.int (iI z) :: sk)) : KW (mw ad D cI cZ) G H0 m nL st pc lo (.ref (ad 0) :: sk) := by
  subst hz; exact k_get hE 0 6 7 rfl rfl (by decide) ⟨rfl, rfl, rfl⟩ uw_X7 rfl hl hd k
theorem m_put_per (hE : KE (mw ad D cI cZ) G H0 m cc own nL R) {idx : Nat} {z : Int} (hl : Cond.fieldLink own idx "BarrelTapsModel" "per" "I" ∈ lw_gt) (hd : decode cc pc = .ok (.putfield idx, 3)) (k : KW (mw ad D cI cZ) G H0 m nL (uv st.1 2 z, st.2) (pc + 3) lo sk) : KW (mw ad D cI cZ) G H0 m nL st pc lo (.int (iI z) :: .ref (ad 0) :: sk) :=
  k_put hE 0 6 7 rfl rfl (by decide) ⟨rfl, rfl, rfl, rfl⟩ uw_X7 tyX7_ok nmX7 (ty := .int) (by decide +kernel) rfl rfl (Nat.le_of_ble_eq_true rfl) rfl hl hd k
theorem m_get_kind (hE : KE (mw ad D cI cZ) G H0 m cc own nL R) {idx : Nat} (hl : Cond.fieldLink own idx "BarrelTapsModel" "kind" "[I" ∈ lw_gt) (hd : decode cc pc = .ok (.getfield idx, 3)) (k : KW (mw ad D cI cZ) G H0 m nL st (pc + 3) lo (.ref (ad 4) :: sk)) : KW (mw ad D cI cZ) G H0 m nL st pc lo (.ref (ad 0) :: sk) :=
  k_get hE 0 6 8 rfl rfl (by decide) ⟨rfl, rfl, rfl⟩ uw_X7 rfl hl hd k
theorem m_ld_kind (hE : KE (mw ad D cI cZ) G H0 m cc own nL R) {i z : Int} (h0 : 0 ≤ i) (h1 : i < 6) (hz : st.2 0 i = z) (hd : decode cc pc = .ok (.iaload, 1)) (k : KW (mw ad D cI cZ) G H0 m nL st (pc + 1) lo (.int (iI z) :: sk)) : KW (mw ad D cI cZ) G H0 m nL st pc lo (.int (iI i) :: .ref (ad 4) :: sk) :=
  k_iald hE 4 0 rfl rfl (by decide) h0 h1 (rI_at h0 hz) hd k
theorem m_st_kind (hE : KE (mw ad D cI cZ) G H0 m cc own nL R) {i z : Int} (h0 : 0 ≤ i) (h1 : i < 6) (hd : decode cc pc = .ok (.iastore, 1)) (k : KW (mw ad D cI cZ) G H0 m nL (st.1, ur st.2 0 i z) (pc + 1) lo sk) : KW (mw ad D cI cZ) G H0 m nL st pc lo (.int (iI z) :: .int (iI i) :: .ref (ad 4) :: sk) :=
  k_iast hE 4 0 rfl rfl (by decide) h0 h1 (by rw [rI_up h0]; rfl) hd k
theorem m_get_height (hE : KE (mw ad D cI cZ) G H0 m cc own nL R) {idx : Nat} (hl : Cond.fieldLink own idx "BarrelTapsModel" "height" "[I" ∈ lw_gt) (hd : decode cc pc = .ok (.getfield idx, 3)) (k : KW (mw ad D cI cZ) G H0 m nL st (pc + 3) lo (.ref (ad 5) :: sk)) : KW (mw ad D cI cZ) G H0 m nL st pc lo (.ref (ad 0) :: sk) :=
  k_get hE 0 6 9 rfl rfl (by decide) ⟨rfl, rfl, rfl⟩ uw_X7 rfl hl hd k
theorem m_ld_height (hE : KE (mw ad D cI cZ) G H0 m cc own nL R) {i z : Int} (h0 : 0 ≤ i) (h1 : i < 6) (hz : st.2 1 i = z) (hd : decode cc pc = .ok (.iaload, 1)) (k : KW (mw ad D cI cZ) G H0 m nL st (pc + 1) lo (.int (iI z) :: sk)) : KW (mw ad D cI cZ) G H0 m nL st pc lo (.int (iI i) :: .ref (ad 5) :: sk) :=
  k_iald hE 5 0 rfl rfl (by decide) h0 h1 (rI_at h0 hz) hd k
theorem m_st_height (hE : KE (mw ad D cI cZ) G H0 m cc own nL R) {i z : Int} (h0 : 0 ≤ i) (h1 : i < 6) (hd : decode cc pc = .ok (.iastore, 1)) (k : KW (mw ad D cI cZ) G H0 m nL (st.1, ur st.2 1 i z) (pc + 1) lo sk) : KW (mw ad D cI cZ) G H0 m nL st pc lo (.int (iI z) :: .int (iI i) :: .ref (ad 5) :: sk) :=
  k_iast hE 5 0 rfl rfl (by decide) h0 h1 (by rw [rI_up h0]; rfl) hd k
theorem m_get_need (hE : KE (mw ad D cI cZ) G H0 m cc own nL R) {idx : Nat} (hl : Cond.fieldLink own idx "BarrelTapsModel" "need" "[I" ∈ lw_gt) (hd : decode cc pc = .ok (.getfield idx, 3)) (k : KW (mw ad D cI cZ) G H0 m nL st (pc + 3) lo (.ref (ad 6) :: sk)) : KW (mw ad D cI cZ) G H0 m nL st pc lo (.ref (ad 0) :: sk) :=
  k_get hE 0 6 10 rfl rfl (by decide) ⟨rfl, rfl, rfl⟩ uw_X7 rfl hl hd k
theorem m_ld_need (hE : KE (mw ad D cI cZ) G H0 m cc own nL R) {i z : Int} (h0 : 0 ≤ i) (h1 : i < 6) (hz : st.2 2 i = z) (hd : decode cc pc = .ok (.iaload, 1)) (k : KW (mw ad D cI cZ) G H0 m nL st (pc + 1) lo (.int (iI z) :: sk)) : KW (mw ad D cI cZ) G H0 m nL st pc lo (.int (iI i) :: .ref (ad 6) :: sk) :=
  k_iald hE 6 0 rfl rfl (by decide) h0 h1 (rI_at h0 hz) hd k
theorem m_st_need (hE : KE (mw ad D cI cZ) G H0 m cc own nL R) {i z : Int} (h0 : 0 ≤ i) (h1 : i < 6) (hd : decode cc pc = .ok (.iastore, 1)) (k : KW (mw ad D cI cZ) G H0 m nL (st.1, ur st.2 2 i z) (pc + 1) lo sk) : KW (mw ad D cI cZ) G H0 m nL st pc lo (.int (iI z) :: .int (iI i) :: .ref (ad 6) :: sk) :=
  k_iast hE 6 0 rfl rfl (by decide) h0 h1 (by rw [rI_up h0]; rfl) hd k
theorem m_get_speed (hE : KE (mw ad D cI cZ) G H0 m cc own nL R) {idx : Nat} (hl : Cond.fieldLink own idx "BarrelTapsModel" "speed" "[I" ∈ lw_gt) (hd : decode cc pc = .ok (.getfield idx, 3)) (k : KW (mw ad D cI cZ) G H0 m nL st (pc + 3) lo (.ref (ad 7) :: sk)) : KW (mw ad D cI cZ) G H0 m nL st pc lo (.ref (ad 0) :: sk) :=
  k_get hE 0 6 11 rfl rfl (by decide) ⟨rfl, rfl, rfl⟩ uw_X7 rfl hl hd k
theorem m_ld_speed (hE : KE (mw ad D cI cZ) G H0 m cc own nL R) {i z : Int} (h0 : 0 ≤ i) (h1 : i < 6) (hz : st.2 3 i = z) (hd : decode cc pc = .ok (.iaload, 1)) (k : KW (mw ad D cI cZ) G H0 m nL st (pc + 1) lo (.int (iI z) :: sk)) : KW (mw ad D cI cZ) G H0 m nL st pc lo (.int (iI i) :: .ref (ad 7) :: sk) :=
  k_iald hE 7 0 rfl rfl (by decide) h0 h1 (rI_at h0 hz) hd k
theorem m_st_speed (hE : KE (mw ad D cI cZ) G H0 m cc own nL R) {i z : Int} (h0 : 0 ≤ i) (h1 : i < 6) (hd : decode cc pc = .ok (.iastore, 1)) (k : KW (mw ad D cI cZ) G H0 m nL (st.1, ur st.2 3 i z) (pc + 1) lo sk) : KW (mw ad D cI cZ) G H0 m nL st pc lo (.int (iI z) :: .int (iI i) :: .ref (ad 7) :: sk) :=
  k_iast hE 7 0 rfl rfl (by decide) h0 h1 (by rw [rI_up h0]; rfl) hd k
theorem m_get_first (hE : KE (mw ad D cI cZ) G H0 m cc own nL R) {idx : Nat} {z : Int} (hz : st.1 3 = z) (hl : Cond.fieldLink own idx "BarrelTapsModel" "first" "I" ∈ lw_gt) (hd : decode cc pc = .ok (.getfield idx, 3)) (k : KW (mw ad D cI cZ) G H0 m nL st (pc + 3) lo (.int (iI z) :: sk)) : KW (mw ad D cI cZ) G H0 m nL st pc lo (.ref (ad 0) :: sk) := by
  subst hz; exact k_get hE 0 6 12 rfl rfl (by decide) ⟨rfl, rfl, rfl⟩ uw_X7 rfl hl hd k
theorem m_put_first (hE : KE (mw ad D cI cZ) G H0 m cc own nL R) {idx : Nat} {z : Int} (hl : Cond.fieldLink own idx "BarrelTapsModel" "first" "I" ∈ lw_gt) (hd : decode cc pc = .ok (.putfield idx, 3)) (k : KW (mw ad D cI cZ) G H0 m nL (uv st.1 3 z, st.2) (pc + 3) lo sk) : KW (mw ad D cI cZ) G H0 m nL st pc lo (.int (iI z) :: .ref (ad 0) :: sk) :=
  k_put hE 0 6 12 rfl rfl (by decide) ⟨rfl, rfl, rfl, rfl⟩ uw_X7 tyX7_ok nmX7 (ty := .int) (by decide +kernel) rfl rfl (Nat.le_of_ble_eq_true rfl) rfl hl hd k
theorem m_get_rainOf (hE : KE (mw ad D cI cZ) G H0 m cc own nL R) {idx : Nat} (hl : Cond.fieldLink own idx "BarrelTapsModel" "rainOf" "[I" ∈ lw_gt) (hd : decode cc pc = .ok (.getfield idx, 3)) (k : KW (mw ad D cI cZ) G H0 m nL st (pc + 3) lo (.ref (ad 8) :: sk)) : KW (mw ad D cI cZ) G H0 m nL st pc lo (.ref (ad 0) :: sk) :=
  k_get hE 0 6 13 rfl rfl (by decide) ⟨rfl, rfl, rfl⟩ uw_X7 rfl hl hd k
theorem m_ld_rainOf (hE : KE (mw ad D cI cZ) G H0 m cc own nL R) {i z : Int} (h0 : 0 ≤ i) (h1 : i < 10) (hz : st.2 4 i = z) (hd : decode cc pc = .ok (.iaload, 1)) (k : KW (mw ad D cI cZ) G H0 m nL st (pc + 1) lo (.int (iI z) :: sk)) : KW (mw ad D cI cZ) G H0 m nL st pc lo (.int (iI i) :: .ref (ad 8) :: sk) :=
  k_iald hE 8 0 rfl rfl (by decide) h0 h1 (rI_at h0 hz) hd k
theorem m_st_rainOf (hE : KE (mw ad D cI cZ) G H0 m cc own nL R) {i z : Int} (h0 : 0 ≤ i) (h1 : i < 10) (hd : decode cc pc = .ok (.iastore, 1)) (k : KW (mw ad D cI cZ) G H0 m nL (st.1, ur st.2 4 i z) (pc + 1) lo sk) : KW (mw ad D cI cZ) G H0 m nL st pc lo (.int (iI z) :: .int (iI i) :: .ref (ad 8) :: sk) :=
  k_iast hE 8 0 rfl rfl (by decide) h0 h1 (by rw [rI_up h0]; rfl) hd k
theorem m_get_lawNow (hE : KE (mw ad D cI cZ) G H0 m cc own nL R) {idx : Nat} {z : Int} (hz : st.1 4 = z) (hl : Cond.fieldLink own idx "BarrelTapsModel" "lawNow" "I" ∈ lw_gt) (hd : decode cc pc = .ok (.getfield idx, 3)) (k : KW (mw ad D cI cZ) G H0 m nL st (pc + 3) lo (.int (iI z) :: sk)) : KW (mw ad D cI cZ) G H0 m nL st pc lo (.ref (ad 0) :: sk) := by
  subst hz; exact k_get hE 0 6 14 rfl rfl (by decide) ⟨rfl, rfl, rfl⟩ uw_X7 rfl hl hd k
theorem m_put_lawNow (hE : KE (mw ad D cI cZ) G H0 m cc own nL R) {idx : Nat} {z : Int} (hl : Cond.fieldLink own idx "BarrelTapsModel" "lawNow" "I" ∈ lw_gt) (hd : decode cc pc = .ok (.putfield idx, 3)) (k : KW (mw ad D cI cZ) G H0 m nL (uv st.1 4 z, st.2) (pc + 3) lo sk) : KW (mw ad D cI cZ) G H0 m nL st pc lo (.int (iI z) :: .ref (ad 0) :: sk) :=
  k_put hE 0 6 14 rfl rfl (by decide) ⟨rfl, rfl, rfl, rfl⟩ uw_X7 tyX7_ok nmX7 (ty := .int) (by decide +kernel) rfl rfl (Nat.le_of_ble_eq_true rfl) rfl hl hd k
theorem m_get_leakAt (hE : KE (mw ad D cI cZ) G H0 m cc own nL R) {idx : Nat} {z : Int} (hz : st.1 5 = z) (hl : Cond.fieldLink own idx "BarrelTapsModel" "leakAt" "I" ∈ lw_gt) (hd : decode cc pc = .ok (.getfield idx, 3)) (k : KW (mw ad D cI cZ) G H0 m nL st (pc + 3) lo (.int (iI z) :: sk)) : KW (mw ad D cI cZ) G H0 m nL st pc lo (.ref (ad 0) :: sk) := by
  subst hz; exact k_get hE 0 6 15 rfl rfl (by decide) ⟨rfl, rfl, rfl⟩ uw_X7 rfl hl hd k
theorem m_put_leakAt (hE : KE (mw ad D cI cZ) G H0 m cc own nL R) {idx : Nat} {z : Int} (hl : Cond.fieldLink own idx "BarrelTapsModel" "leakAt" "I" ∈ lw_gt) (hd : decode cc pc = .ok (.putfield idx, 3)) (k : KW (mw ad D cI cZ) G H0 m nL (uv st.1 5 z, st.2) (pc + 3) lo sk) : KW (mw ad D cI cZ) G H0 m nL st pc lo (.int (iI z) :: .ref (ad 0) :: sk) :=
  k_put hE 0 6 15 rfl rfl (by decide) ⟨rfl, rfl, rfl, rfl⟩ uw_X7 tyX7_ok nmX7 (ty := .int) (by decide +kernel) rfl rfl (Nat.le_of_ble_eq_true rfl) rfl hl hd k
theorem m_get_leaks (hE : KE (mw ad D cI cZ) G H0 m cc own nL R) {idx : Nat} {z : Int} (hz : st.1 6 = z) (hl : Cond.fieldLink own idx "BarrelTapsModel" "leaks" "I" ∈ lw_gt) (hd : decode cc pc = .ok (.getfield idx, 3)) (k : KW (mw ad D cI cZ) G H0 m nL st (pc + 3) lo (.int (iI z) :: sk)) : KW (mw ad D cI cZ) G H0 m nL st pc lo (.ref (ad 0) :: sk) := by
  subst hz; exact k_get hE 0 6 16 rfl rfl (by decide) ⟨rfl, rfl, rfl⟩ uw_X7 rfl hl hd k
theorem m_put_leaks (hE : KE (mw ad D cI cZ) G H0 m cc own nL R) {idx : Nat} {z : Int} (hl : Cond.fieldLink own idx "BarrelTapsModel" "leaks" "I" ∈ lw_gt) (hd : decode cc pc = .ok (.putfield idx, 3)) (k : KW (mw ad D cI cZ) G H0 m nL (uv st.1 6 z, st.2) (pc + 3) lo sk) : KW (mw ad D cI cZ) G H0 m nL st pc lo (.int (iI z) :: .ref (ad 0) :: sk) :=
  k_put hE 0 6 16 rfl rfl (by decide) ⟨rfl, rfl, rfl, rfl⟩ uw_X7 tyX7_ok nmX7 (ty := .int) (by decide +kernel) rfl rfl (Nat.le_of_ble_eq_true rfl) rfl hl hd k
theorem m_get_at (hE : KE (mw ad D cI cZ) G H0 m cc own nL R) {idx : Nat} {z : Int} (hz : st.1 10 = z) (hl : Cond.fieldLink own idx "BarrelTapsModel" "at" "I" ∈ lw_gt) (hd : decode cc pc = .ok (.getfield idx, 3)) (k : KW (mw ad D cI cZ) G H0 m nL st (pc + 3) lo (.int (iI z) :: sk)) : KW (mw ad D cI cZ) G H0 m nL st pc lo (.ref (ad 0) :: sk) := by
  subst hz; exact k_get hE 0 6 17 rfl rfl (by decide) ⟨rfl, rfl, rfl⟩ uw_X7 rfl hl hd k
theorem m_put_at (hE : KE (mw ad D cI cZ) G H0 m cc own nL R) {idx : Nat} {z : Int} (hl : Cond.fieldLink own idx "BarrelTapsModel" "at" "I" ∈ lw_gt) (hd : decode cc pc = .ok (.putfield idx, 3)) (k : KW (mw ad D cI cZ) G H0 m nL (uv st.1 10 z, st.2) (pc + 3) lo sk) : KW (mw ad D cI cZ) G H0 m nL st pc lo (.int (iI z) :: .ref (ad 0) :: sk) :=
  k_put hE 0 6 17 rfl rfl (by decide) ⟨rfl, rfl, rfl, rfl⟩ uw_X7 tyX7_ok nmX7 (ty := .int) (by decide +kernel) rfl rfl (Nat.le_of_ble_eq_true rfl) rfl hl hd k
theorem m_get_readCap (hE : KE (mw ad D cI cZ) G H0 m cc own nL R) {idx : Nat} {z : Int} (hz : st.1 11 = z) (hl : Cond.fieldLink own idx "BarrelTapsModel" "readCap" "I" ∈ lw_gt) (hd : decode cc pc = .ok (.getfield idx, 3)) (k : KW (mw ad D cI cZ) G H0 m nL st (pc + 3) lo (.int (iI z) :: sk)) : KW (mw ad D cI cZ) G H0 m nL st pc lo (.ref (ad 0) :: sk) := by
  subst hz; exact k_get hE 0 6 18 rfl rfl (by decide) ⟨rfl, rfl, rfl⟩ uw_X7 rfl hl hd k
theorem m_put_readCap (hE : KE (mw ad D cI cZ) G H0 m cc own nL R) {idx : Nat} {z : Int} (hl : Cond.fieldLink own idx "BarrelTapsModel" "readCap" "I" ∈ lw_gt) (hd : decode cc pc = .ok (.putfield idx, 3)) (k : KW (mw ad D cI cZ) G H0 m nL (uv st.1 11 z, st.2) (pc + 3) lo sk) : KW (mw ad D cI cZ) G H0 m nL st pc lo (.int (iI z) :: .ref (ad 0) :: sk) :=
  k_put hE 0 6 18 rfl rfl (by decide) ⟨rfl, rfl, rfl, rfl⟩ uw_X7 tyX7_ok nmX7 (ty := .int) (by decide +kernel) rfl rfl (Nat.le_of_ble_eq_true rfl) rfl hl hd k
theorem m_get_readPer (hE : KE (mw ad D cI cZ) G H0 m cc own nL R) {idx : Nat} {z : Int} (hz : st.1 12 = z) (hl : Cond.fieldLink own idx "BarrelTapsModel" "readPer" "I" ∈ lw_gt) (hd : decode cc pc = .ok (.getfield idx, 3)) (k : KW (mw ad D cI cZ) G H0 m nL st (pc + 3) lo (.int (iI z) :: sk)) : KW (mw ad D cI cZ) G H0 m nL st pc lo (.ref (ad 0) :: sk) := by
  subst hz; exact k_get hE 0 6 19 rfl rfl (by decide) ⟨rfl, rfl, rfl⟩ uw_X7 rfl hl hd k
theorem m_put_readPer (hE : KE (mw ad D cI cZ) G H0 m cc own nL R) {idx : Nat} {z : Int} (hl : Cond.fieldLink own idx "BarrelTapsModel" "readPer" "I" ∈ lw_gt) (hd : decode cc pc = .ok (.putfield idx, 3)) (k : KW (mw ad D cI cZ) G H0 m nL (uv st.1 12 z, st.2) (pc + 3) lo sk) : KW (mw ad D cI cZ) G H0 m nL st pc lo (.int (iI z) :: .ref (ad 0) :: sk) :=
  k_put hE 0 6 19 rfl rfl (by decide) ⟨rfl, rfl, rfl, rfl⟩ uw_X7 tyX7_ok nmX7 (ty := .int) (by decide +kernel) rfl rfl (Nat.le_of_ble_eq_true rfl) rfl hl hd k
theorem m_get_readTaps (hE : KE (mw ad D cI cZ) G H0 m cc own nL R) {idx : Nat} {z : Int} (hz : st.1 13 = z) (hl : Cond.fieldLink own idx "BarrelTapsModel" "readTaps" "I" ∈ lw_gt) (hd : decode cc pc = .ok (.getfield idx, 3)) (k : KW (mw ad D cI cZ) G H0 m nL st (pc + 3) lo (.int (iI z) :: sk)) : KW (mw ad D cI cZ) G H0 m nL st pc lo (.ref (ad 0) :: sk) := by
  subst hz; exact k_get hE 0 6 20 rfl rfl (by decide) ⟨rfl, rfl, rfl⟩ uw_X7 rfl hl hd k
theorem m_put_readTaps (hE : KE (mw ad D cI cZ) G H0 m cc own nL R) {idx : Nat} {z : Int} (hl : Cond.fieldLink own idx "BarrelTapsModel" "readTaps" "I" ∈ lw_gt) (hd : decode cc pc = .ok (.putfield idx, 3)) (k : KW (mw ad D cI cZ) G H0 m nL (uv st.1 13 z, st.2) (pc + 3) lo sk) : KW (mw ad D cI cZ) G H0 m nL st pc lo (.int (iI z) :: .ref (ad 0) :: sk) :=
  k_put hE 0 6 20 rfl rfl (by decide) ⟨rfl, rfl, rfl, rfl⟩ uw_X7 tyX7_ok nmX7 (ty := .int) (by decide +kernel) rfl rfl (Nat.le_of_ble_eq_true rfl) rfl hl hd k
theorem m_get_readKind (hE : KE (mw ad D cI cZ) G H0 m cc own nL R) {idx : Nat} (hl : Cond.fieldLink own idx "BarrelTapsModel" "readKind" "[I" ∈ lw_gt) (hd : decode cc pc = .ok (.getfield idx, 3)) (k : KW (mw ad D cI cZ) G H0 m nL st (pc + 3) lo (.ref (ad 9) :: sk)) : KW (mw ad D cI cZ) G H0 m nL st pc lo (.ref (ad 0) :: sk) :=
  k_get hE 0 6 21 rfl rfl (by decide) ⟨rfl, rfl, rfl⟩ uw_X7 rfl hl hd k
theorem m_ld_readKind (hE : KE (mw ad D cI cZ) G H0 m cc own nL R) {i z : Int} (h0 : 0 ≤ i) (h1 : i < 6) (hz : st.2 10 i = z) (hd : decode cc pc = .ok (.iaload, 1)) (k : KW (mw ad D cI cZ) G H0 m nL st (pc + 1) lo (.int (iI z) :: sk)) : KW (mw ad D cI cZ) G H0 m nL st pc lo (.int (iI i) :: .ref (ad 9) :: sk) :=
  k_iald hE 9 0 rfl rfl (by decide) h0 h1 (rI_at h0 hz) hd k
theorem m_st_readKind (hE : KE (mw ad D cI cZ) G H0 m cc own nL R) {i z : Int} (h0 : 0 ≤ i) (h1 : i < 6) (hd : decode cc pc = .ok (.iastore, 1)) (k : KW (mw ad D cI cZ) G H0 m nL (st.1, ur st.2 10 i z) (pc + 1) lo sk) : KW (mw ad D cI cZ) G H0 m nL st pc lo (.int (iI z) :: .int (iI i) :: .ref (ad 9) :: sk) :=
  k_iast hE 9 0 rfl rfl (by decide) h0 h1 (by rw [rI_up h0]; rfl) hd k
theorem m_get_readDigits (hE : KE (mw ad D cI cZ) G H0 m cc own nL R) {idx : Nat} (hl : Cond.fieldLink own idx "BarrelTapsModel" "readDigits" "[I" ∈ lw_gt) (hd : decode cc pc = .ok (.getfield idx, 3)) (k : KW (mw ad D cI cZ) G H0 m nL st (pc + 3) lo (.ref (ad 10) :: sk)) : KW (mw ad D cI cZ) G H0 m nL st pc lo (.ref (ad 0) :: sk) :=
  k_get hE 0 6 22 rfl rfl (by decide) ⟨rfl, rfl, rfl⟩ uw_X7 rfl hl hd k
theorem m_ld_readDigits (hE : KE (mw ad D cI cZ) G H0 m cc own nL R) {i z : Int} (h0 : 0 ≤ i) (h1 : i < 18) (hz : st.2 11 i = z) (hd : decode cc pc = .ok (.iaload, 1)) (k : KW (mw ad D cI cZ) G H0 m nL st (pc + 1) lo (.int (iI z) :: sk)) : KW (mw ad D cI cZ) G H0 m nL st pc lo (.int (iI i) :: .ref (ad 10) :: sk) :=
  k_iald hE 10 0 rfl rfl (by decide) h0 h1 (rI_at h0 hz) hd k
theorem m_st_readDigits (hE : KE (mw ad D cI cZ) G H0 m cc own nL R) {i z : Int} (h0 : 0 ≤ i) (h1 : i < 18) (hd : decode cc pc = .ok (.iastore, 1)) (k : KW (mw ad D cI cZ) G H0 m nL (st.1, ur st.2 11 i z) (pc + 1) lo sk) : KW (mw ad D cI cZ) G H0 m nL st pc lo (.int (iI z) :: .int (iI i) :: .ref (ad 10) :: sk) :=
  k_iast hE 10 0 rfl rfl (by decide) h0 h1 (by rw [rI_up h0]; rfl) hd k
theorem m_get_levels (hE : KE (mw ad D cI cZ) G H0 m cc own nL R) {idx : Nat} (hl : Cond.fieldLink own idx "BarrelTapsModel" "levels" "[I" ∈ lw_gt) (hd : decode cc pc = .ok (.getfield idx, 3)) (k : KW (mw ad D cI cZ) G H0 m nL st (pc + 3) lo (.ref (ad 11) :: sk)) : KW (mw ad D cI cZ) G H0 m nL st pc lo (.ref (ad 0) :: sk) :=
  k_get hE 0 6 23 rfl rfl (by decide) ⟨rfl, rfl, rfl⟩ uw_X7 rfl hl hd k
theorem m_ld_levels (hE : KE (mw ad D cI cZ) G H0 m cc own nL R) {i z : Int} (h0 : 0 ≤ i) (h1 : i < 11) (hz : st.2 12 i = z) (hd : decode cc pc = .ok (.iaload, 1)) (k : KW (mw ad D cI cZ) G H0 m nL st (pc + 1) lo (.int (iI z) :: sk)) : KW (mw ad D cI cZ) G H0 m nL st pc lo (.int (iI i) :: .ref (ad 11) :: sk) :=
  k_iald hE 11 0 rfl rfl (by decide) h0 h1 (rI_at h0 hz) hd k
theorem m_st_levels (hE : KE (mw ad D cI cZ) G H0 m cc own nL R) {i z : Int} (h0 : 0 ≤ i) (h1 : i < 11) (hd : decode cc pc = .ok (.iastore, 1)) (k : KW (mw ad D cI cZ) G H0 m nL (st.1, ur st.2 12 i z) (pc + 1) lo sk) : KW (mw ad D cI cZ) G H0 m nL st pc lo (.int (iI z) :: .int (iI i) :: .ref (ad 11) :: sk) :=
  k_iast hE 11 0 rfl rfl (by decide) h0 h1 (by rw [rI_up h0]; rfl) hd k
theorem m_get_gotOn (hE : KE (mw ad D cI cZ) G H0 m cc own nL R) {idx : Nat} (hl : Cond.fieldLink own idx "BarrelTapsModel" "gotOn" "[I" ∈ lw_gt) (hd : decode cc pc = .ok (.getfield idx, 3)) (k : KW (mw ad D cI cZ) G H0 m nL st (pc + 3) lo (.ref (ad 12) :: sk)) : KW (mw ad D cI cZ) G H0 m nL st pc lo (.ref (ad 0) :: sk) :=
  k_get hE 0 6 24 rfl rfl (by decide) ⟨rfl, rfl, rfl⟩ uw_X7 rfl hl hd k
theorem m_ld_gotOn (hE : KE (mw ad D cI cZ) G H0 m cc own nL R) {i z : Int} (h0 : 0 ≤ i) (h1 : i < 60) (hz : st.2 14 i = z) (hd : decode cc pc = .ok (.iaload, 1)) (k : KW (mw ad D cI cZ) G H0 m nL st (pc + 1) lo (.int (iI z) :: sk)) : KW (mw ad D cI cZ) G H0 m nL st pc lo (.int (iI i) :: .ref (ad 12) :: sk) :=
  k_iald hE 12 0 rfl rfl (by decide) h0 h1 (rI_at h0 hz) hd k
theorem m_st_gotOn (hE : KE (mw ad D cI cZ) G H0 m cc own nL R) {i z : Int} (h0 : 0 ≤ i) (h1 : i < 60) (hd : decode cc pc = .ok (.iastore, 1)) (k : KW (mw ad D cI cZ) G H0 m nL (st.1, ur st.2 14 i z) (pc + 1) lo sk) : KW (mw ad D cI cZ) G H0 m nL st pc lo (.int (iI z) :: .int (iI i) :: .ref (ad 12) :: sk) :=
  k_iast hE 12 0 rfl rfl (by decide) h0 h1 (by rw [rI_up h0]; rfl) hd k
theorem m_get_overOn (hE : KE (mw ad D cI cZ) G H0 m cc own nL R) {idx : Nat} (hl : Cond.fieldLink own idx "BarrelTapsModel" "overOn" "[I" ∈ lw_gt) (hd : decode cc pc = .ok (.getfield idx, 3)) (k : KW (mw ad D cI cZ) G H0 m nL st (pc + 3) lo (.ref (ad 13) :: sk)) : KW (mw ad D cI cZ) G H0 m nL st pc lo (.ref (ad 0) :: sk) :=
  k_get hE 0 6 25 rfl rfl (by decide) ⟨rfl, rfl, rfl⟩ uw_X7 rfl hl hd k
theorem m_ld_overOn (hE : KE (mw ad D cI cZ) G H0 m cc own nL R) {i z : Int} (h0 : 0 ≤ i) (h1 : i < 10) (hz : st.2 15 i = z) (hd : decode cc pc = .ok (.iaload, 1)) (k : KW (mw ad D cI cZ) G H0 m nL st (pc + 1) lo (.int (iI z) :: sk)) : KW (mw ad D cI cZ) G H0 m nL st pc lo (.int (iI i) :: .ref (ad 13) :: sk) :=
  k_iald hE 13 0 rfl rfl (by decide) h0 h1 (rI_at h0 hz) hd k
theorem m_st_overOn (hE : KE (mw ad D cI cZ) G H0 m cc own nL R) {i z : Int} (h0 : 0 ≤ i) (h1 : i < 10) (hd : decode cc pc = .ok (.iastore, 1)) (k : KW (mw ad D cI cZ) G H0 m nL (st.1, ur st.2 15 i z) (pc + 1) lo sk) : KW (mw ad D cI cZ) G H0 m nL st pc lo (.int (iI z) :: .int (iI i) :: .ref (ad 13) :: sk) :=
  k_iast hE 13 0 rfl rfl (by decide) h0 h1 (by rw [rI_up h0]; rfl) hd k
theorem m_get_drawn (hE : KE (mw ad D cI cZ) G H0 m cc own nL R) {idx : Nat} (hl : Cond.fieldLink own idx "BarrelTapsModel" "drawn" "[I" ∈ lw_gt) (hd : decode cc pc = .ok (.getfield idx, 3)) (k : KW (mw ad D cI cZ) G H0 m nL st (pc + 3) lo (.ref (ad 14) :: sk)) : KW (mw ad D cI cZ) G H0 m nL st pc lo (.ref (ad 0) :: sk) :=
  k_get hE 0 6 26 rfl rfl (by decide) ⟨rfl, rfl, rfl⟩ uw_X7 rfl hl hd k
theorem m_ld_drawn (hE : KE (mw ad D cI cZ) G H0 m cc own nL R) {i z : Int} (h0 : 0 ≤ i) (h1 : i < 6) (hz : st.2 16 i = z) (hd : decode cc pc = .ok (.iaload, 1)) (k : KW (mw ad D cI cZ) G H0 m nL st (pc + 1) lo (.int (iI z) :: sk)) : KW (mw ad D cI cZ) G H0 m nL st pc lo (.int (iI i) :: .ref (ad 14) :: sk) :=
  k_iald hE 14 0 rfl rfl (by decide) h0 h1 (rI_at h0 hz) hd k
theorem m_st_drawn (hE : KE (mw ad D cI cZ) G H0 m cc own nL R) {i z : Int} (h0 : 0 ≤ i) (h1 : i < 6) (hd : decode cc pc = .ok (.iastore, 1)) (k : KW (mw ad D cI cZ) G H0 m nL (st.1, ur st.2 16 i z) (pc + 1) lo sk) : KW (mw ad D cI cZ) G H0 m nL st pc lo (.int (iI z) :: .int (iI i) :: .ref (ad 14) :: sk) :=
  k_iast hE 14 0 rfl rfl (by decide) h0 h1 (by rw [rI_up h0]; rfl) hd k
theorem m_get_isDone (hE : KE (mw ad D cI cZ) G H0 m cc own nL R) {idx : Nat} (hl : Cond.fieldLink own idx "BarrelTapsModel" "isDone" "[Z" ∈ lw_gt) (hd : decode cc pc = .ok (.getfield idx, 3)) (k : KW (mw ad D cI cZ) G H0 m nL st (pc + 3) lo (.ref (ad 15) :: sk)) : KW (mw ad D cI cZ) G H0 m nL st pc lo (.ref (ad 0) :: sk) :=
  k_get hE 0 6 27 rfl rfl (by decide) ⟨rfl, rfl, rfl⟩ uw_X7 rfl hl hd k
theorem m_ld_isDone (hE : KE (mw ad D cI cZ) G H0 m cc own nL R) {i z : Int} (h0 : 0 ≤ i) (h1 : i < 6) (hz : st.2 17 i = z) (hd : decode cc pc = .ok (.baload, 1)) (k : KW (mw ad D cI cZ) G H0 m nL st (pc + 1) lo (.int (iI z) :: sk)) : KW (mw ad D cI cZ) G H0 m nL st pc lo (.int (iI i) :: .ref (ad 15) :: sk) :=
  k_zald hE 15 1 rfl rfl (by decide) h0 h1 (rI_at h0 hz) hd k
theorem m_st_isDone (hE : KE (mw ad D cI cZ) G H0 m cc own nL R) {i z : Int} (h0 : 0 ≤ i) (h1 : i < 6) (hz : z = 0 ∨ z = 1) (hd : decode cc pc = .ok (.bastore, 1)) (k : KW (mw ad D cI cZ) G H0 m nL (st.1, ur st.2 17 i z) (pc + 1) lo sk) : KW (mw ad D cI cZ) G H0 m nL st pc lo (.int (iI z) :: .int (iI i) :: .ref (ad 15) :: sk) :=
  k_zast hE 15 1 rfl rfl (by decide) h0 h1 (by rcases hz with rfl | rfl <;> rfl) (by rw [rI_up h0]; rfl) hd k
theorem m_get_water (hE : KE (mw ad D cI cZ) G H0 m cc own nL R) {idx : Nat} {z : Int} (hz : st.1 14 = z) (hl : Cond.fieldLink own idx "BarrelTapsModel" "water" "I" ∈ lw_gt) (hd : decode cc pc = .ok (.getfield idx, 3)) (k : KW (mw ad D cI cZ) G H0 m nL st (pc + 3) lo (.int (iI z) :: sk)) : KW (mw ad D cI cZ) G H0 m nL st pc lo (.ref (ad 0) :: sk) := by
  subst hz; exact k_get hE 0 6 28 rfl rfl (by decide) ⟨rfl, rfl, rfl⟩ uw_X7 rfl hl hd k
theorem m_put_water (hE : KE (mw ad D cI cZ) G H0 m cc own nL R) {idx : Nat} {z : Int} (hl : Cond.fieldLink own idx "BarrelTapsModel" "water" "I" ∈ lw_gt) (hd : decode cc pc = .ok (.putfield idx, 3)) (k : KW (mw ad D cI cZ) G H0 m nL (uv st.1 14 z, st.2) (pc + 3) lo sk) : KW (mw ad D cI cZ) G H0 m nL st pc lo (.int (iI z) :: .ref (ad 0) :: sk) :=
  k_put hE 0 6 28 rfl rfl (by decide) ⟨rfl, rfl, rfl, rfl⟩ uw_X7 tyX7_ok nmX7 (ty := .int) (by decide +kernel) rfl rfl (Nat.le_of_ble_eq_true rfl) rfl hl hd k
theorem m_get_isJust (hE : KE (mw ad D cI cZ) G H0 m cc own nL R) {idx : Nat} {z : Int} (hz : st.1 15 = z) (hl : Cond.fieldLink own idx "BarrelTapsModel" "isJust" "Z" ∈ lw_gt) (hd : decode cc pc = .ok (.getfield idx, 3)) (k : KW (mw ad D cI cZ) G H0 m nL st (pc + 3) lo (.int (iI z) :: sk)) : KW (mw ad D cI cZ) G H0 m nL st pc lo (.ref (ad 0) :: sk) := by
  subst hz; exact k_get hE 0 6 29 rfl rfl (by decide) ⟨rfl, rfl, rfl⟩ uw_X7 rfl hl hd k
theorem m_put_isJust (hE : KE (mw ad D cI cZ) G H0 m cc own nL R) {idx : Nat} {z : Int} (hz : z = 0 ∨ z = 1) (hl : Cond.fieldLink own idx "BarrelTapsModel" "isJust" "Z" ∈ lw_gt) (hd : decode cc pc = .ok (.putfield idx, 3)) (k : KW (mw ad D cI cZ) G H0 m nL (uv st.1 15 z, st.2) (pc + 3) lo sk) : KW (mw ad D cI cZ) G H0 m nL st pc lo (.int (iI z) :: .ref (ad 0) :: sk) :=
  k_put hE 0 6 29 rfl rfl (by decide) ⟨rfl, rfl, rfl, rfl⟩ uw_X7 tyX7_ok nmX7 (ty := .boolean) (by decide +kernel) (by rcases hz with rfl | rfl <;> rfl) (by rcases hz with rfl | rfl <;> rfl) (Nat.le_of_ble_eq_true rfl) rfl hl hd k
theorem m_get_thiefDay (hE : KE (mw ad D cI cZ) G H0 m cc own nL R) {idx : Nat} {z : Int} (hz : st.1 16 = z) (hl : Cond.fieldLink own idx "BarrelTapsModel" "thiefDay" "I" ∈ lw_gt) (hd : decode cc pc = .ok (.getfield idx, 3)) (k : KW (mw ad D cI cZ) G H0 m nL st (pc + 3) lo (.int (iI z) :: sk)) : KW (mw ad D cI cZ) G H0 m nL st pc lo (.ref (ad 0) :: sk) := by
  subst hz; exact k_get hE 0 6 30 rfl rfl (by decide) ⟨rfl, rfl, rfl⟩ uw_X7 rfl hl hd k
theorem m_put_thiefDay (hE : KE (mw ad D cI cZ) G H0 m cc own nL R) {idx : Nat} {z : Int} (hl : Cond.fieldLink own idx "BarrelTapsModel" "thiefDay" "I" ∈ lw_gt) (hd : decode cc pc = .ok (.putfield idx, 3)) (k : KW (mw ad D cI cZ) G H0 m nL (uv st.1 16 z, st.2) (pc + 3) lo sk) : KW (mw ad D cI cZ) G H0 m nL st pc lo (.int (iI z) :: .ref (ad 0) :: sk) :=
  k_put hE 0 6 30 rfl rfl (by decide) ⟨rfl, rfl, rfl, rfl⟩ uw_X7 tyX7_ok nmX7 (ty := .int) (by decide +kernel) rfl rfl (Nat.le_of_ble_eq_true rfl) rfl hl hd k
theorem m_get_thiefTap (hE : KE (mw ad D cI cZ) G H0 m cc own nL R) {idx : Nat} {z : Int} (hz : st.1 17 = z) (hl : Cond.fieldLink own idx "BarrelTapsModel" "thiefTap" "I" ∈ lw_gt) (hd : decode cc pc = .ok (.getfield idx, 3)) (k : KW (mw ad D cI cZ) G H0 m nL st (pc + 3) lo (.int (iI z) :: sk)) : KW (mw ad D cI cZ) G H0 m nL st pc lo (.ref (ad 0) :: sk) := by
  subst hz; exact k_get hE 0 6 31 rfl rfl (by decide) ⟨rfl, rfl, rfl⟩ uw_X7 rfl hl hd k
theorem m_put_thiefTap (hE : KE (mw ad D cI cZ) G H0 m cc own nL R) {idx : Nat} {z : Int} (hl : Cond.fieldLink own idx "BarrelTapsModel" "thiefTap" "I" ∈ lw_gt) (hd : decode cc pc = .ok (.putfield idx, 3)) (k : KW (mw ad D cI cZ) G H0 m nL (uv st.1 17 z, st.2) (pc + 3) lo sk) : KW (mw ad D cI cZ) G H0 m nL st pc lo (.int (iI z) :: .ref (ad 0) :: sk) :=
  k_put hE 0 6 31 rfl rfl (by decide) ⟨rfl, rfl, rfl, rfl⟩ uw_X7 tyX7_ok nmX7 (ty := .int) (by decide +kernel) rfl rfl (Nat.le_of_ble_eq_true rfl) rfl hl hd k
theorem m_get_thiefMuch (hE : KE (mw ad D cI cZ) G H0 m cc own nL R) {idx : Nat} {z : Int} (hz : st.1 18 = z) (hl : Cond.fieldLink own idx "BarrelTapsModel" "thiefMuch" "I" ∈ lw_gt) (hd : decode cc pc = .ok (.getfield idx, 3)) (k : KW (mw ad D cI cZ) G H0 m nL st (pc + 3) lo (.int (iI z) :: sk)) : KW (mw ad D cI cZ) G H0 m nL st pc lo (.ref (ad 0) :: sk) := by
  subst hz; exact k_get hE 0 6 32 rfl rfl (by decide) ⟨rfl, rfl, rfl⟩ uw_X7 rfl hl hd k
theorem m_put_thiefMuch (hE : KE (mw ad D cI cZ) G H0 m cc own nL R) {idx : Nat} {z : Int} (hl : Cond.fieldLink own idx "BarrelTapsModel" "thiefMuch" "I" ∈ lw_gt) (hd : decode cc pc = .ok (.putfield idx, 3)) (k : KW (mw ad D cI cZ) G H0 m nL (uv st.1 18 z, st.2) (pc + 3) lo sk) : KW (mw ad D cI cZ) G H0 m nL st pc lo (.int (iI z) :: .ref (ad 0) :: sk) :=
  k_put hE 0 6 32 rfl rfl (by decide) ⟨rfl, rfl, rfl, rfl⟩ uw_X7 tyX7_ok nmX7 (ty := .int) (by decide +kernel) rfl rfl (Nat.le_of_ble_eq_true rfl) rfl hl hd k
theorem m_get_didGive (hE : KE (mw ad D cI cZ) G H0 m cc own nL R) {idx : Nat} {z : Int} (hz : st.1 19 = z) (hl : Cond.fieldLink own idx "BarrelTapsModel" "didGive" "Z" ∈ lw_gt) (hd : decode cc pc = .ok (.getfield idx, 3)) (k : KW (mw ad D cI cZ) G H0 m nL st (pc + 3) lo (.int (iI z) :: sk)) : KW (mw ad D cI cZ) G H0 m nL st pc lo (.ref (ad 0) :: sk) := by
  subst hz; exact k_get hE 0 6 33 rfl rfl (by decide) ⟨rfl, rfl, rfl⟩ uw_X7 rfl hl hd k
theorem m_put_didGive (hE : KE (mw ad D cI cZ) G H0 m cc own nL R) {idx : Nat} {z : Int} (hz : z = 0 ∨ z = 1) (hl : Cond.fieldLink own idx "BarrelTapsModel" "didGive" "Z" ∈ lw_gt) (hd : decode cc pc = .ok (.putfield idx, 3)) (k : KW (mw ad D cI cZ) G H0 m nL (uv st.1 19 z, st.2) (pc + 3) lo sk) : KW (mw ad D cI cZ) G H0 m nL st pc lo (.int (iI z) :: .ref (ad 0) :: sk) :=
  k_put hE 0 6 33 rfl rfl (by decide) ⟨rfl, rfl, rfl, rfl⟩ uw_X7 tyX7_ok nmX7 (ty := .boolean) (by decide +kernel) (by rcases hz with rfl | rfl <;> rfl) (by rcases hz with rfl | rfl <;> rfl) (Nat.le_of_ble_eq_true rfl) rfl hl hd k
theorem m_get_keptRain (hE : KE (mw ad D cI cZ) G H0 m cc own nL R) {idx : Nat} (hl : Cond.fieldLink own idx "BarrelTapsModel" "keptRain" "[I" ∈ lw_gt) (hd : decode cc pc = .ok (.getfield idx, 3)) (k : KW (mw ad D cI cZ) G H0 m nL st (pc + 3) lo (.ref (ad 16) :: sk)) : KW (mw ad D cI cZ) G H0 m nL st pc lo (.ref (ad 0) :: sk) :=
  k_get hE 0 6 34 rfl rfl (by decide) ⟨rfl, rfl, rfl⟩ uw_X7 rfl hl hd k
theorem m_ld_keptRain (hE : KE (mw ad D cI cZ) G H0 m cc own nL R) {i z : Int} (h0 : 0 ≤ i) (h1 : i < 10) (hz : st.2 18 i = z) (hd : decode cc pc = .ok (.iaload, 1)) (k : KW (mw ad D cI cZ) G H0 m nL st (pc + 1) lo (.int (iI z) :: sk)) : KW (mw ad D cI cZ) G H0 m nL st pc lo (.int (iI i) :: .ref (ad 16) :: sk) :=
  k_iald hE 16 0 rfl rfl (by decide) h0 h1 (rI_at h0 hz) hd k
theorem m_st_keptRain (hE : KE (mw ad D cI cZ) G H0 m cc own nL R) {i z : Int} (h0 : 0 ≤ i) (h1 : i < 10) (hd : decode cc pc = .ok (.iastore, 1)) (k : KW (mw ad D cI cZ) G H0 m nL (st.1, ur st.2 18 i z) (pc + 1) lo sk) : KW (mw ad D cI cZ) G H0 m nL st pc lo (.int (iI z) :: .int (iI i) :: .ref (ad 16) :: sk) :=
  k_iast hE 16 0 rfl rfl (by decide) h0 h1 (by rw [rI_up h0]; rfl) hd k
theorem m_get_marks (hE : KE (mw ad D cI cZ) G H0 m cc own nL R) {idx : Nat} {z : Int} (hz : st.1 7 = z) (hl : Cond.fieldLink own idx "BarrelTapsModel" "marks" "I" ∈ lw_gt) (hd : decode cc pc = .ok (.getfield idx, 3)) (k : KW (mw ad D cI cZ) G H0 m nL st (pc + 3) lo (.int (iI z) :: sk)) : KW (mw ad D cI cZ) G H0 m nL st pc lo (.ref (ad 0) :: sk) := by
  subst hz; exact k_get hE 0 6 35 rfl rfl (by decide) ⟨rfl, rfl, rfl⟩ uw_X7 rfl hl hd k
theorem m_put_marks (hE : KE (mw ad D cI cZ) G H0 m cc own nL R) {idx : Nat} {z : Int} (hl : Cond.fieldLink own idx "BarrelTapsModel" "marks" "I" ∈ lw_gt) (hd : decode cc pc = .ok (.putfield idx, 3)) (k : KW (mw ad D cI cZ) G H0 m nL (uv st.1 7 z, st.2) (pc + 3) lo sk) : KW (mw ad D cI cZ) G H0 m nL st pc lo (.int (iI z) :: .ref (ad 0) :: sk) :=
  k_put hE 0 6 35 rfl rfl (by decide) ⟨rfl, rfl, rfl, rfl⟩ uw_X7 tyX7_ok nmX7 (ty := .int) (by decide +kernel) rfl rfl (Nat.le_of_ble_eq_true rfl) rfl hl hd k
theorem m_get_markDay (hE : KE (mw ad D cI cZ) G H0 m cc own nL R) {idx : Nat} (hl : Cond.fieldLink own idx "BarrelTapsModel" "markDay" "[I" ∈ lw_gt) (hd : decode cc pc = .ok (.getfield idx, 3)) (k : KW (mw ad D cI cZ) G H0 m nL st (pc + 3) lo (.ref (ad 17) :: sk)) : KW (mw ad D cI cZ) G H0 m nL st pc lo (.ref (ad 0) :: sk) :=
  k_get hE 0 6 36 rfl rfl (by decide) ⟨rfl, rfl, rfl⟩ uw_X7 rfl hl hd k
theorem m_ld_markDay (hE : KE (mw ad D cI cZ) G H0 m cc own nL R) {i z : Int} (h0 : 0 ≤ i) (h1 : i < 8) (hz : st.2 5 i = z) (hd : decode cc pc = .ok (.iaload, 1)) (k : KW (mw ad D cI cZ) G H0 m nL st (pc + 1) lo (.int (iI z) :: sk)) : KW (mw ad D cI cZ) G H0 m nL st pc lo (.int (iI i) :: .ref (ad 17) :: sk) :=
  k_iald hE 17 0 rfl rfl (by decide) h0 h1 (rI_at h0 hz) hd k
theorem m_st_markDay (hE : KE (mw ad D cI cZ) G H0 m cc own nL R) {i z : Int} (h0 : 0 ≤ i) (h1 : i < 8) (hd : decode cc pc = .ok (.iastore, 1)) (k : KW (mw ad D cI cZ) G H0 m nL (st.1, ur st.2 5 i z) (pc + 1) lo sk) : KW (mw ad D cI cZ) G H0 m nL st pc lo (.int (iI z) :: .int (iI i) :: .ref (ad 17) :: sk) :=
  k_iast hE 17 0 rfl rfl (by decide) h0 h1 (by rw [rI_up h0]; rfl) hd k
theorem m_get_markLevel (hE : KE (mw ad D cI cZ) G H0 m cc own nL R) {idx : Nat} (hl : Cond.fieldLink own idx "BarrelTapsModel" "markLevel" "[I" ∈ lw_gt) (hd : decode cc pc = .ok (.getfield idx, 3)) (k : KW (mw ad D cI cZ) G H0 m nL st (pc + 3) lo (.ref (ad 18) :: sk)) : KW (mw ad D cI cZ) G H0 m nL st pc lo (.ref (ad 0) :: sk) :=
  k_get hE 0 6 37 rfl rfl (by decide) ⟨rfl, rfl, rfl⟩ uw_X7 rfl hl hd k
theorem m_ld_markLevel (hE : KE (mw ad D cI cZ) G H0 m cc own nL R) {i z : Int} (h0 : 0 ≤ i) (h1 : i < 8) (hz : st.2 6 i = z) (hd : decode cc pc = .ok (.iaload, 1)) (k : KW (mw ad D cI cZ) G H0 m nL st (pc + 1) lo (.int (iI z) :: sk)) : KW (mw ad D cI cZ) G H0 m nL st pc lo (.int (iI i) :: .ref (ad 18) :: sk) :=
  k_iald hE 18 0 rfl rfl (by decide) h0 h1 (rI_at h0 hz) hd k
theorem m_st_markLevel (hE : KE (mw ad D cI cZ) G H0 m cc own nL R) {i z : Int} (h0 : 0 ≤ i) (h1 : i < 8) (hd : decode cc pc = .ok (.iastore, 1)) (k : KW (mw ad D cI cZ) G H0 m nL (st.1, ur st.2 6 i z) (pc + 1) lo sk) : KW (mw ad D cI cZ) G H0 m nL st pc lo (.int (iI z) :: .int (iI i) :: .ref (ad 18) :: sk) :=
  k_iast hE 18 0 rfl rfl (by decide) h0 h1 (by rw [rI_up h0]; rfl) hd k
end MROWS
end
section
def in62 (z : Int) : Prop := -4611686018427387904 ≤ z ∧ z < 4611686018427387904
theorem jI_val {z : Int} (h : in62 z) : (jI z).toInt = z := Int64.toInt_ofInt_of_le (by have := h.1; omega) (by have := h.2; omega)
theorem jI_add (a b : Int) : jI a + jI b = jI (a + b) := (Int64.ofInt_add a b).symm
theorem jI_sub (a b : Int) : jI a - jI b = jI (a - b) := (Int64.ofInt_sub a b).symm
theorem jI_mul (a b : Int) : jI a * jI b = jI (a * b) := (Int64.ofInt_mul a b).symm
theorem jI_eq {a b : Int} (ha : in62 a) (hb : in62 b) : jI a = jI b ↔ a = b := by
  rw [← Int64.toInt_inj, jI_val ha, jI_val hb]
theorem jI_lt {a b : Int} (ha : in62 a) (hb : in62 b) : jI a < jI b ↔ a < b := by
  rw [Int64.lt_iff_toInt_lt, jI_val ha, jI_val hb]
theorem in62_0 : in62 0 := by unfold in62; omega
theorem jI_div {a b : Int} (ha : in62 a) (hb : in62 b) (h : 0 < b) : jI a / jI b = jI (a.tdiv b) := by
  refine (Int64.ofInt_tdiv ?_ ?_ ?_ ?_).symm
  · have := ha.1; exact Int.le_trans (by decide) this
  · have := ha.2; exact Int.le_trans (Int.le_of_lt this) (by decide)
  · have := hb.1; exact Int.le_trans (by decide) this
  · have := hb.2; exact Int.le_trans (Int.le_of_lt this) (by decide)
theorem iI_long {x : Int} (h : in32 x) : (iI x).toInt64 = jI x := by
  rw [← Int64.toInt_inj, Int32.toInt_toInt64, iI_val h.1 h.2, jI_val (by unfold in62; have := h.1; have := h.2; omega)]
theorem lcmp_is {x y : Int} (hx : in62 x) (hy : in62 y) : ∃ z : Int, lg_cmp (jI x) (jI y) = iI z ∧ ((z = 1 ∧ y < x) ∨ (z = 0 ∧ x = y) ∨ (z = -1 ∧ x < y)) := by
  unfold lg_cmp
  by_cases h : y < x
  · exact ⟨1, by rw [if_pos ((jI_lt hy hx).mpr h)]; rfl, Or.inl ⟨rfl, h⟩⟩
  · rw [if_neg (fun h2 => h ((jI_lt hy hx).mp h2))]
    by_cases h3 : x = y
    · exact ⟨0, by rw [if_pos ((jI_eq hx hy).mpr h3)]; rfl, Or.inr (Or.inl ⟨rfl, h3⟩)⟩
    · exact ⟨-1, by rw [if_neg (fun h2 => h3 ((jI_eq hx hy).mp h2))]; rfl, Or.inr (Or.inr ⟨rfl, by omega⟩)⟩
def zand (x y : Int) : Int := (iI x &&& iI y).toInt
def zor (x y : Int) : Int := (iI x ||| iI y).toInt
def zshl (x y : Int) : Int := (iI x <<< (iI y &&& 31)).toInt
def zshr (x y : Int) : Int := (iI x >>> (iI y &&& 31)).toInt
def b8 (x : Int) : Int := (iI x).toInt8.toInt32.toInt
def s16 (x : Int) : Int := (iI x).toInt16.toInt32.toInt
theorem zand_in (x y : Int) : in32 (zand x y) := iI_rng _
theorem zor_in (x y : Int) : in32 (zor x y) := iI_rng _
theorem zshl_in (x y : Int) : in32 (zshl x y) := iI_rng _
theorem zshr_in (x y : Int) : in32 (zshr x y) := iI_rng _
theorem ret_i {a b : Int} (h : a = b) : some (Value.int (iI a)) = some (Value.int (iI b)) := by rw [h]
theorem ret_l {a b : Int} (h : a = b) : some (Value.long (jI a)) = some (Value.long (jI b)) := by rw [h]
section KROWS3
variable {σ : Type} {w : WD σ} {G : Heap → List Loc → JFrame → Prop} {H0 : Heap} {m : MethodId} {cc : ByteArray} {own : String} {nL : Nat} {R : Room} {st : σ} {pc : Nat} {lo lo' : List (Nat × Value)} {sk : List Value}

theorem k_iand (hE : KE w G H0 m cc own nL R) {x y : Int} (hd : decode cc pc = .ok (.iand, 1)) (k : KW w G H0 m nL st (pc + 1) lo (.int (iI (zand x y)) :: sk)) : KW w G H0 m nL st pc lo (.int (iI y) :: .int (iI x) :: sk) := by
  obtain ⟨p, l, e, s, args, below, meth, c, Q, cells, slots, rfl, rfl, hx, hb, hml, hown, hts, hK, hw, hc1, hc2⟩ := hE
  exact fun H locs ls hP hS hl => lv_iand hx hb hd (by have h1 := k H locs ls hP hS hl; unfold zand at h1; rw [iI_toInt] at h1; exact h1)

theorem k_ior (hE : KE w G H0 m cc own nL R) {x y : Int} (hd : decode cc pc = .ok (.ior, 1)) (k : KW w G H0 m nL st (pc + 1) lo (.int (iI (zor x y)) :: sk)) : KW w G H0 m nL st pc lo (.int (iI y) :: .int (iI x) :: sk) := by
  obtain ⟨p, l, e, s, args, below, meth, c, Q, cells, slots, rfl, rfl, hx, hb, hml, hown, hts, hK, hw, hc1, hc2⟩ := hE
  exact fun H locs ls hP hS hl => lv_ior hx hb hd (by have h1 := k H locs ls hP hS hl; unfold zor at h1; rw [iI_toInt] at h1; exact h1)

theorem k_ishl (hE : KE w G H0 m cc own nL R) {x y : Int} (hd : decode cc pc = .ok (.ishl, 1)) (k : KW w G H0 m nL st (pc + 1) lo (.int (iI (zshl x y)) :: sk)) : KW w G H0 m nL st pc lo (.int (iI y) :: .int (iI x) :: sk) := by
  obtain ⟨p, l, e, s, args, below, meth, c, Q, cells, slots, rfl, rfl, hx, hb, hml, hown, hts, hK, hw, hc1, hc2⟩ := hE
  exact fun H locs ls hP hS hl => lv_ishl hx hb hd (by have h1 := k H locs ls hP hS hl; unfold zshl at h1; rw [iI_toInt] at h1; exact h1)

theorem k_ishr (hE : KE w G H0 m cc own nL R) {x y : Int} (hd : decode cc pc = .ok (.ishr, 1)) (k : KW w G H0 m nL st (pc + 1) lo (.int (iI (zshr x y)) :: sk)) : KW w G H0 m nL st pc lo (.int (iI y) :: .int (iI x) :: sk) := by
  obtain ⟨p, l, e, s, args, below, meth, c, Q, cells, slots, rfl, rfl, hx, hb, hml, hown, hts, hK, hw, hc1, hc2⟩ := hE
  exact fun H locs ls hP hS hl => lv_ishr hx hb hd (by have h1 := k H locs ls hP hS hl; unfold zshr at h1; rw [iI_toInt] at h1; exact h1)

theorem k_i2b (hE : KE w G H0 m cc own nL R) {x : Int} (hd : decode cc pc = .ok (.i2b, 1)) (k : KW w G H0 m nL st (pc + 1) lo (.int (iI (b8 x)) :: sk)) : KW w G H0 m nL st pc lo (.int (iI x) :: sk) := by
  obtain ⟨p, l, e, s, args, below, meth, c, Q, cells, slots, rfl, rfl, hx, hb, hml, hown, hts, hK, hw, hc1, hc2⟩ := hE
  exact fun H locs ls hP hS hl => lv_i2b hx hb hd rfl (by have h1 := k H locs ls hP hS hl; unfold b8 at h1; rw [iI_toInt] at h1; exact h1)

theorem k_i2s (hE : KE w G H0 m cc own nL R) {x : Int} (hd : decode cc pc = .ok (.i2s, 1)) (k : KW w G H0 m nL st (pc + 1) lo (.int (iI (s16 x)) :: sk)) : KW w G H0 m nL st pc lo (.int (iI x) :: sk) := by
  obtain ⟨p, l, e, s, args, below, meth, c, Q, cells, slots, rfl, rfl, hx, hb, hml, hown, hts, hK, hw, hc1, hc2⟩ := hE
  exact fun H locs ls hP hS hl => lv_i2s hx hb hd rfl (by have h1 := k H locs ls hP hS hl; unfold s16 at h1; rw [iI_toInt] at h1; exact h1)

theorem k_idivN (hE : KE w G H0 m cc own nL R) {x y : Int} (hd : decode cc pc = .ok (.idiv, 1)) (hxr : in32 x) (hyr : in32 y) (h0 : 0 < y) (hx0 : 0 ≤ x) (k : KW w G H0 m nL st (pc + 1) lo (.int (iI (x / y)) :: sk)) : KW w G H0 m nL st pc lo (.int (iI y) :: .int (iI x) :: sk) :=
  k_idiv hE hd hxr hyr h0 (by rw [Int.tdiv_eq_ediv_of_nonneg hx0]; exact k)
theorem k_iremN (hE : KE w G H0 m cc own nL R) {x y : Int} (hd : decode cc pc = .ok (.irem, 1)) (hxr : in32 x) (hyr : in32 y) (h0 : 0 < y) (hx0 : 0 ≤ x) (k : KW w G H0 m nL st (pc + 1) lo (.int (iI (x % y)) :: sk)) : KW w G H0 m nL st pc lo (.int (iI y) :: .int (iI x) :: sk) :=
  k_irem hE hd hxr hyr h0 (by rw [Int.tdiv_eq_ediv_of_nonneg hx0, Int.mul_comm, ← Int.emod_def]; exact k)
theorem k_i2l (hE : KE w G H0 m cc own nL R) {x : Int} (hd : decode cc pc = .ok (.i2l, 1)) (hxr : in32 x) (k : KW w G H0 m nL st (pc + 1) lo (.long (jI x) :: sk)) : KW w G H0 m nL st pc lo (.int (iI x) :: sk) := by
  obtain ⟨p, l, e, s, args, below, meth, c, Q, cells, slots, rfl, rfl, hx, hb, hml, hown, hts, hK, hw, hc1, hc2⟩ := hE
  exact fun H locs ls hP hS hl => lv_i2l hx hb hd (iI_long hxr) (k H locs ls hP hS hl)
theorem k_lconst0 (hE : KE w G H0 m cc own nL R) (hd : decode cc pc = .ok (.lconst 0, 1)) (k : KW w G H0 m nL st (pc + 1) lo (.long (jI 0) :: sk)) : KW w G H0 m nL st pc lo sk := by
  obtain ⟨p, l, e, s, args, below, meth, c, Q, cells, slots, rfl, rfl, hx, hb, hml, hown, hts, hK, hw, hc1, hc2⟩ := hE
  exact fun H locs ls hP hS hl => lv_lconst hx hb hd rfl (k H locs ls hP hS hl)
theorem k_lconst1 (hE : KE w G H0 m cc own nL R) (hd : decode cc pc = .ok (.lconst 1, 1)) (k : KW w G H0 m nL st (pc + 1) lo (.long (jI 1) :: sk)) : KW w G H0 m nL st pc lo sk := by
  obtain ⟨p, l, e, s, args, below, meth, c, Q, cells, slots, rfl, rfl, hx, hb, hml, hown, hts, hK, hw, hc1, hc2⟩ := hE
  exact fun H locs ls hP hS hl => lv_lconst hx hb hd rfl (k H locs ls hP hS hl)
theorem k_ladd (hE : KE w G H0 m cc own nL R) {x y : Int} (hd : decode cc pc = .ok (.ladd, 1)) (k : KW w G H0 m nL st (pc + 1) lo (.long (jI (x + y)) :: sk)) : KW w G H0 m nL st pc lo (.long (jI y) :: .long (jI x) :: sk) := by
  obtain ⟨p, l, e, s, args, below, meth, c, Q, cells, slots, rfl, rfl, hx, hb, hml, hown, hts, hK, hw, hc1, hc2⟩ := hE
  exact fun H locs ls hP hS hl => lv_ladd hx hb hd (by rw [jI_add]; exact k H locs ls hP hS hl)
theorem k_lmul (hE : KE w G H0 m cc own nL R) {x y : Int} (hd : decode cc pc = .ok (.lmul, 1)) (k : KW w G H0 m nL st (pc + 1) lo (.long (jI (x * y)) :: sk)) : KW w G H0 m nL st pc lo (.long (jI y) :: .long (jI x) :: sk) := by
  obtain ⟨p, l, e, s, args, below, meth, c, Q, cells, slots, rfl, rfl, hx, hb, hml, hown, hts, hK, hw, hc1, hc2⟩ := hE
  exact fun H locs ls hP hS hl => lv_lmul hx hb hd (by rw [jI_mul]; exact k H locs ls hP hS hl)
theorem k_ldiv (hE : KE w G H0 m cc own nL R) {x y : Int} (hd : decode cc pc = .ok (.ldiv, 1)) (hxr : in62 x) (hyr : in62 y) (h0 : 0 < y) (k : KW w G H0 m nL st (pc + 1) lo (.long (jI (x.tdiv y)) :: sk)) : KW w G H0 m nL st pc lo (.long (jI y) :: .long (jI x) :: sk) := by
  obtain ⟨p, l, e, s, args, below, meth, c, Q, cells, slots, rfl, rfl, hx, hb, hml, hown, hts, hK, hw, hc1, hc2⟩ := hE
  exact fun H locs ls hP hS hl => lv_ldiv hx hb hd (fun h => by rw [show (0 : Int64) = jI 0 from rfl, jI_eq hyr in62_0] at h; omega) (by rw [jI_div hxr hyr h0]; exact k H locs ls hP hS hl)
theorem k_lrem (hE : KE w G H0 m cc own nL R) {x y : Int} (hd : decode cc pc = .ok (.lrem, 1)) (hxr : in62 x) (hyr : in62 y) (h0 : 0 < y) (k : KW w G H0 m nL st (pc + 1) lo (.long (jI (x - x.tdiv y * y)) :: sk)) : KW w G H0 m nL st pc lo (.long (jI y) :: .long (jI x) :: sk) := by
  obtain ⟨p, l, e, s, args, below, meth, c, Q, cells, slots, rfl, rfl, hx, hb, hml, hown, hts, hK, hw, hc1, hc2⟩ := hE
  exact fun H locs ls hP hS hl => lv_lrem hx hb hd (fun h => by rw [show (0 : Int64) = jI 0 from rfl, jI_eq hyr in62_0] at h; omega) (by rw [jI_div hxr hyr h0, jI_mul, jI_sub]; exact k H locs ls hP hS hl)
theorem k_ldivN (hE : KE w G H0 m cc own nL R) {x y : Int} (hd : decode cc pc = .ok (.ldiv, 1)) (hxr : in62 x) (hyr : in62 y) (h0 : 0 < y) (hx0 : 0 ≤ x) (k : KW w G H0 m nL st (pc + 1) lo (.long (jI (x / y)) :: sk)) : KW w G H0 m nL st pc lo (.long (jI y) :: .long (jI x) :: sk) :=
  k_ldiv hE hd hxr hyr h0 (by rw [Int.tdiv_eq_ediv_of_nonneg hx0]; exact k)
theorem k_lremN (hE : KE w G H0 m cc own nL R) {x y : Int} (hd : decode cc pc = .ok (.lrem, 1)) (hxr : in62 x) (hyr : in62 y) (h0 : 0 < y) (hx0 : 0 ≤ x) (k : KW w G H0 m nL st (pc + 1) lo (.long (jI (x % y)) :: sk)) : KW w G H0 m nL st pc lo (.long (jI y) :: .long (jI x) :: sk) :=
  k_lrem hE hd hxr hyr h0 (by rw [Int.tdiv_eq_ediv_of_nonneg hx0, Int.mul_comm, ← Int.emod_def]; exact k)
theorem k_lcmp (hE : KE w G H0 m cc own nL R) {x y : Int} (hd : decode cc pc = .ok (.lcmp, 1)) (hxr : in62 x) (hyr : in62 y) (k : ∀ z : Int, ((z = 1 ∧ y < x) ∨ (z = 0 ∧ x = y) ∨ (z = -1 ∧ x < y)) → KW w G H0 m nL st (pc + 1) lo (.int (iI z) :: sk)) : KW w G H0 m nL st pc lo (.long (jI y) :: .long (jI x) :: sk) := by
  obtain ⟨p, l, e, s, args, below, meth, c, Q, cells, slots, rfl, rfl, hx, hb, hml, hown, hts, hK, hw, hc1, hc2⟩ := hE
  obtain ⟨z, e1, h1⟩ := lcmp_is hxr hyr
  exact fun H locs ls hP hS hl => W.lcmp hx hb hd (by rw [e1]; exact k z h1 H locs ls hP hS hl)
theorem k_ldc2 (hE : KE w G H0 m cc own nL R) {idx : Nat} {v : Int64} (hl : Cond.constantLong own idx v ∈ lw_gt) (hd : decode cc pc = .ok (.ldc2_w idx, 3)) (k : KW w G H0 m nL st (pc + 3) lo (.long v :: sk)) : KW w G H0 m nL st pc lo sk := by
  obtain ⟨p, l, e, s, args, below, meth, c, Q, cells, slots, rfl, rfl, hx, hb, hml, hown, hts, hK, hw, hc1, hc2⟩ := hE
  exact fun H locs ls hP hS hl0 => lv_ldc2 hx hb hown (hts _ hl) hd (k H locs ls hP hS hl0)
theorem k_tabOut (hE : KE w G H0 m cc own nL R) {dflt a b : Int} {offs : Array Int} {len : Nat} {x : Int} (tgt : Nat) (hd : decode cc pc = .ok (.tableswitch dflt a b offs, len)) (hxr : in32 x) (h : x < a ∨ b < x) (ht : (pc : Int) + dflt = (tgt : Int)) (k : KW w G H0 m nL st tgt lo sk) : KW w G H0 m nL st pc lo (.int (iI x) :: sk) := by
  obtain ⟨p, l, e, s, args, below, meth, c, Q, cells, slots, rfl, rfl, hx, hb, hml, hown, hts, hK, hw, hc1, hc2⟩ := hE
  exact fun H locs ls hP hS hl => lv_tableOut hx hb hd (by rw [iI_val hxr.1 hxr.2]; exact h) ht (k H locs ls hP hS hl)
theorem k_tabIn (hE : KE w G H0 m cc own nL R) {dflt a b : Int} {offs : Array Int} {len : Nat} {x off : Int} (tgt : Nat) (y : Int) (hd : decode cc pc = .ok (.tableswitch dflt a b offs, len)) (hxy : x = y) (h1 : ¬ (iI y).toInt < a) (h2 : ¬ b < (iI y).toInt) (ho : offs[((iI y).toInt - a).toNat]? = some off) (ht : (pc : Int) + off = (tgt : Int)) (k : KW w G H0 m nL st tgt lo sk) : KW w G H0 m nL st pc lo (.int (iI x) :: sk) := by
  obtain ⟨p, l, e, s, args, below, meth, c, Q, cells, slots, rfl, rfl, hx, hb, hml, hown, hts, hK, hw, hc1, hc2⟩ := hE
  subst hxy
  exact fun H locs ls hP hS hl => lv_tableIn hx hb hd h1 h2 ho ht (k H locs ls hP hS hl)
theorem k_lookup (hE : KE w G H0 m cc own nL R) {dflt : Int} {ps : Array (Int × Int)} {len : Nat} {x off : Int} (tgt : Nat) (hd : decode cc pc = .ok (.lookupswitch dflt ps, len)) (hp : (ps.toList.zip (ps.toList.drop 1)).all (fun (a, next) => a.1 < next.1) = true) (ho : Op.lookupswitch.offset ps.toList dflt (iI x).toInt = off) (ht : (pc : Int) + off = (tgt : Int)) (k : KW w G H0 m nL st tgt lo sk) : KW w G H0 m nL st pc lo (.int (iI x) :: sk) := by
  obtain ⟨p, l, e, s, args, below, meth, c, Q, cells, slots, rfl, rfl, hx, hb, hml, hown, hts, hK, hw, hc1, hc2⟩ := hE
  exact fun H locs ls hP hS hl => lv_lookup hx hb hd hp ho ht (k H locs ls hP hS hl)
theorem nar_b {z : Int} (h : z = 0 ∨ z = 1) : narrow .boolean (.int (iI z)) = .int (iI z) := by rcases h with rfl | rfl <;> rfl
theorem cl_X6_167 : Cond.constantLong RX6 167 (-9223372036854775808) ∈ lw_gt := gt_mem (by decide +kernel) rfl
theorem cl_X7_72 : Cond.constantLong RX7 72 (-9223372036854775808) ∈ lw_gt := gt_mem (by decide +kernel) rfl
end KROWS3

/-! the yard in numbers: v 0 taps, 1 cap, 2 per, 3 first, 4 law, 5 leak's height, 6 its pails, 7 marks; r 0 kind, 1 height, 2 need, 3 speed, 4 rain, 5 mark's day, 6 mark's level -/
def Ag (st Y : Sg) : Prop := (∀ i, i < 8 → st.1 i = Y.1 i) ∧ (∀ a, a < 7 → st.2 a = Y.2 a)
theorem Ag.refl (st : Sg) : Ag st st := ⟨fun _ _ => rfl, fun _ _ => rfl⟩
theorem Ag.symm {a b : Sg} (h : Ag a b) : Ag b a := ⟨fun i hi => (h.1 i hi).symm, fun i hi => (h.2 i hi).symm⟩
theorem Ag.trans {a b c : Sg} (h : Ag a b) (h2 : Ag b c) : Ag a c := ⟨fun i hi => (h.1 i hi).trans (h2.1 i hi), fun i hi => (h.2 i hi).trans (h2.2 i hi)⟩
theorem Ag.upv {st Y : Sg} (h : Ag st Y) {k : Nat} (hk : 8 ≤ k) (z : Int) : Ag (uv st.1 k z, st.2) Y := ⟨fun i hi => by show uv st.1 k z i = _; rw [uv_n _ _ (by omega)]; exact h.1 i hi, h.2⟩
theorem Ag.upr {st Y : Sg} (h : Ag st Y) {k : Nat} (hk : 7 ≤ k) (i z : Int) : Ag (st.1, ur st.2 k i z) Y := ⟨h.1, fun a ha => by show ur st.2 k i z a = _; rw [ur_n _ _ _ (by omega)]; exact h.2 a ha⟩
def Inv (Y : Sg) : Prop := (0 ≤ Y.1 0 ∧ Y.1 0 ≤ 6) ∧ (0 ≤ Y.1 1 ∧ Y.1 1 ≤ 99) ∧ (0 ≤ Y.1 2 ∧ Y.1 2 ≤ 9) ∧ (0 ≤ Y.1 3 ∧ Y.1 3 ≤ Y.1 1) ∧ (0 ≤ Y.1 4 ∧ Y.1 4 ≤ 2) ∧ (0 ≤ Y.1 5 ∧ Y.1 5 ≤ 9) ∧ (0 ≤ Y.1 6 ∧ Y.1 6 ≤ 9) ∧ (0 ≤ Y.1 7 ∧ Y.1 7 ≤ 8)
  ∧ (∀ f : Int, 0 ≤ f → f < 6 → (0 ≤ Y.2 0 f ∧ Y.2 0 f ≤ 2) ∧ (0 ≤ Y.2 1 f ∧ Y.2 1 f ≤ 9) ∧ (0 ≤ Y.2 2 f ∧ Y.2 2 f ≤ 9) ∧ (0 ≤ Y.2 3 f ∧ Y.2 3 f ≤ 9))
  ∧ (∀ d : Int, 0 ≤ d → d < 10 → 0 ≤ Y.2 4 d ∧ Y.2 4 d ≤ 99)
  ∧ (∀ k : Int, 0 ≤ k → k < 8 → (0 ≤ Y.2 5 k ∧ Y.2 5 k ≤ 10) ∧ (0 ≤ Y.2 6 k ∧ Y.2 6 k ≤ 99))
  ∧ (∀ f : Int, 0 ≤ f → f < Y.1 0 → 1 ≤ Y.2 2 f ∧ 1 ≤ Y.2 3 f)
/-- wants -/
def WN (Y : Sg) (f : Int) : Int := if Y.2 0 f = 2 then Y.2 2 f + Y.2 2 f / 2 + 1 else if Y.2 0 f = 1 then Y.2 2 f + Y.2 2 f / 2 else Y.2 2 f
/-- what a tap gives -/
def GV (Y : Sg) (f w : Int) : Int := max 0 (w - Y.2 1 f * Y.1 2)
theorem mul99 {a b : Int} (h : 0 ≤ a ∧ a ≤ 9) (h2 : 0 ≤ b ∧ b ≤ 9) : 0 ≤ a * b ∧ a * b ≤ 81 := by
  refine ⟨Int.mul_nonneg h.1 h2.1, ?_⟩
  have := Int.mul_le_mul h.2 h2.2 h2.1 (by omega : (0 : Int) ≤ 9)
  omega
theorem WN_rng {Y : Sg} (hI : Inv Y) {f : Int} (h0 : 0 ≤ f) (h1 : f < 6) : 0 ≤ WN Y f ∧ WN Y f ≤ 14 ∧ Y.2 2 f ≤ WN Y f := by
  obtain ⟨-, -, -, -, -, -, -, -, ht, -⟩ := hI
  have := ht f h0 h1
  unfold WN
  split <;> (try split) <;> omega
theorem tdiv2 {a : Int} (h : 0 ≤ a) : Int.tdiv a 2 = a / 2 := Int.tdiv_eq_ediv_of_nonneg h
end
section
set_option maxHeartbeats 4000000 in
set_option maxRecDepth 100000 in
theorem c_X3_wants {ad : Nat → Nat} {ta sa ca : Int → Nat} {D : va_G} {cI cT cS : ClassId} (st : Sg) (Y : Sg) (f : Int) (hA : Ag st Y) (hI : Inv Y) (h0 : 0 ≤ f) (h1 : f < 6) : MC (xw ad ta sa ca D cI cT cS) yX3_wants cX3_wants 1 (some .int) { frames := 0, cells := 0, slots := 0, locals := 0 } [.ref (ta f)] st (fun rv u => rv = some (.int (iI (WN Y f))) ∧ u = st) := by
  refine MC_intro RX3 (by decide) rfl (Nat.le_of_ble_eq_true rfl) ?_
  intro G H0 m hE hR
  refine k_lo [0] (lo' := [(0, .ref (ta f))]) rfl ?_
  obtain ⟨hi0, hi1, hi2, hi3, hi4, hi5, hi6, hi7, hit, hir, him, hin⟩ := id hI
  have hf := hit f h0 h1
  refine k_aload_n hE dX3_wants_0 0 rfl rfl ?_
  refine x_get_X3_kind hE (z := Y.2 0 f) (by omega) (by omega) (congrFun (hA.2 0 (by decide)) f) fl_X3_9 dX3_wants_1 ?_
  refine k_iconst hE dX3_wants_4 ?_
  refine k_icmp_ne hE 22 dX3_wants_5 (by decide) (by unfold in32; omega) (by unfold in32; omega) (fun c5 => ?_) (fun c5 => ?_)
  · refine k_aload_n hE dX3_wants_22 0 rfl rfl ?_
    refine x_get_X3_kind hE (z := Y.2 0 f) (by omega) (by omega) (congrFun (hA.2 0 (by decide)) f) fl_X3_9 dX3_wants_23 ?_
    refine k_iconst hE dX3_wants_26 ?_
    refine k_icmp_ne hE 44 dX3_wants_27 (by decide) (by unfold in32; omega) (by unfold in32; omega) (fun c27 => ?_) (fun c27 => ?_)
    · refine k_aload_n hE dX3_wants_44 0 rfl rfl ?_
      refine x_get_X3_need hE (z := Y.2 2 f) (by omega) (by omega) (congrFun (hA.2 2 (by decide)) f) fl_X3_15 dX3_wants_45 ?_
      exact k_iret hR dX3_wants_48 rfl ⟨ret_i (by unfold WN; repeat (first | omega | split)), rfl⟩
    · refine k_aload_n hE dX3_wants_30 0 rfl rfl ?_
      refine x_get_X3_need hE (z := Y.2 2 f) (by omega) (by omega) (congrFun (hA.2 2 (by decide)) f) fl_X3_15 dX3_wants_31 ?_
      refine k_aload_n hE dX3_wants_34 0 rfl rfl ?_
      refine x_get_X3_need hE (z := Y.2 2 f) (by omega) (by omega) (congrFun (hA.2 2 (by decide)) f) fl_X3_15 dX3_wants_35 ?_
      refine k_iconst hE dX3_wants_38 ?_
      refine k_idivN hE dX3_wants_39 (by unfold in32; omega) (by unfold in32; omega) (by omega) (by omega) ?_
      refine k_iadd hE dX3_wants_40 ?_
      refine k_goto hE 48 dX3_wants_41 (by decide) ?_
      exact k_iret hR dX3_wants_48 rfl ⟨ret_i (by unfold WN; repeat (first | omega | split)), rfl⟩
  · refine k_aload_n hE dX3_wants_8 0 rfl rfl ?_
    refine x_get_X3_need hE (z := Y.2 2 f) (by omega) (by omega) (congrFun (hA.2 2 (by decide)) f) fl_X3_15 dX3_wants_9 ?_
    refine k_aload_n hE dX3_wants_12 0 rfl rfl ?_
    refine x_get_X3_need hE (z := Y.2 2 f) (by omega) (by omega) (congrFun (hA.2 2 (by decide)) f) fl_X3_15 dX3_wants_13 ?_
    refine k_iconst hE dX3_wants_16 ?_
    refine k_idivN hE dX3_wants_17 (by unfold in32; omega) (by unfold in32; omega) (by omega) (by omega) ?_
    refine k_iadd hE dX3_wants_18 ?_
    refine k_iconst hE dX3_wants_19 ?_
    refine k_iadd hE dX3_wants_20 ?_
    exact k_iret hR dX3_wants_21 rfl ⟨ret_i (by unfold WN; repeat (first | omega | split)), rfl⟩

set_option maxHeartbeats 4000000 in
set_option maxRecDepth 100000 in
theorem c_X5_givesAt {ad : Nat → Nat} {ta sa ca : Int → Nat} {D : va_G} {cI cT cS : ClassId} (st : Sg) (Y : Sg) (f : Int) (w : Int) (hA : Ag st Y) (hI : Inv Y) (h0 : 0 ≤ f) (h1 : f < 6) (hw : -1000 ≤ w ∧ w ≤ 1000) : MC (xw ad ta sa ca D cI cT cS) yX5_givesAt cX5_givesAt 4 (some .int) { frames := 0, cells := 0, slots := 0, locals := 0 } [.ref (ad 1), .int (iI f), .int (iI w)] st (fun rv u => rv = some (.int (iI (GV Y f w))) ∧ u = st) := by
  refine MC_intro RX5 (by decide) rfl (Nat.le_of_ble_eq_true rfl) ?_
  intro G H0 m hE hR
  refine k_lo [0, 1, 2] (lo' := [(0, .ref (ad 1)), (1, .int (iI f)), (2, .int (iI w))]) rfl ?_
  obtain ⟨hi0, hi1, hi2, hi3, hi4, hi5, hi6, hi7, hit, hir, him, hin⟩ := id hI
  have hf := hit f h0 h1
  have hm := mul99 hf.2.1 hi2
  refine k_iload_n hE dX5_givesAt_0 2 rfl rfl ?_
  refine k_aload_n hE dX5_givesAt_1 0 rfl rfl ?_
  refine x_get_X5_taps hE fl_X5_11 dX5_givesAt_2 ?_
  refine k_iload_n hE dX5_givesAt_5 1 rfl rfl ?_
  refine x_ld_taps hE (i := f) (by omega) (by omega) dX5_givesAt_6 ?_
  refine x_get_X3_height hE (z := Y.2 1 f) (by omega) (by omega) (congrFun (hA.2 1 (by decide)) f) fl_X5_56 dX5_givesAt_7 ?_
  refine k_aload_n hE dX5_givesAt_10 0 rfl rfl ?_
  refine x_get_X5_per hE (z := Y.1 2) (hA.1 2 (by decide)) fl_X5_32 dX5_givesAt_11 ?_
  refine k_imul hE dX5_givesAt_14 ?_
  refine k_isub hE dX5_givesAt_15 ?_
  refine k_istore_n hE dX5_givesAt_16 [1, 2, 3, 0] rfl (Nat.le_of_ble_eq_true rfl) (lo' := [(0, .ref (ad 1)), (1, .int (iI f)), (2, .int (iI w)), (3, .int (iI (w - ((Y.2 1 f) * (Y.1 2)))))]) rfl ?_
  refine k_iload_n hE dX5_givesAt_17 3 rfl rfl ?_
  refine k_if_le hE 25 dX5_givesAt_18 (by decide) (by unfold in32; omega) (fun c18 => ?_) (fun c18 => ?_)
  · refine k_iconst hE dX5_givesAt_25 ?_
    exact k_iret hR dX5_givesAt_26 rfl ⟨ret_i (by unfold GV; omega), rfl⟩
  · refine k_iload_n hE dX5_givesAt_21 3 rfl rfl ?_
    refine k_goto hE 26 dX5_givesAt_22 (by decide) ?_
    exact k_iret hR dX5_givesAt_26 rfl ⟨ret_i (by unfold GV; omega), rfl⟩

set_option maxHeartbeats 4000000 in
set_option maxRecDepth 100000 in
theorem c_X6_isNot {ad : Nat → Nat} {ta sa ca : Int → Nat} {D : va_G} {cI cT cS : ClassId} (st : Sg) (a : Int) (v : Int) (b : Int) (i_a : -2147483648 ≤ a ∧ a < 2147483648) (i_v : -2147483648 ≤ v ∧ v < 2147483648) (i_b : -2147483648 ≤ b ∧ b < 2147483648) : MC (xw ad ta sa ca D cI cT cS) yX6_isNot cX6_isNot 3 (some .boolean) { frames := 0, cells := 0, slots := 0, locals := 0 } [.int (iI a), .int (iI v), .int (iI b)] st (fun rv u => ∃ z : Int, rv = some (.int (iI (z))) ∧ u = st ∧ ((z = 1 ∧ (v < a ∨ b < v)) ∨ (z = 0 ∧ ¬ (v < a ∨ b < v)))) := by
  refine MC_intro RX6 (by decide) rfl (Nat.le_of_ble_eq_true rfl) ?_
  intro G H0 m hE hR
  refine k_lo [0, 1, 2] (lo' := [(0, .int (iI a)), (1, .int (iI v)), (2, .int (iI b))]) rfl ?_
  refine k_iload_n hE dX6_isNot_0 1 rfl rfl ?_
  refine k_iload_n hE dX6_isNot_1 0 rfl rfl ?_
  refine k_icmp_lt hE 10 dX6_isNot_2 (by decide) (by unfold in32; omega) (by unfold in32; omega) (fun c2 => ?_) (fun c2 => ?_)
  · refine k_iconst hE dX6_isNot_10 ?_
    refine k_goto hE 15 dX6_isNot_11 (by decide) ?_
    exact k_zret hR dX6_isNot_15 rfl (nar_b (by omega)) ⟨_, rfl, rfl, by omega⟩
  · refine k_iload_n hE dX6_isNot_5 1 rfl rfl ?_
    refine k_iload_n hE dX6_isNot_6 2 rfl rfl ?_
    refine k_icmp_le hE 14 dX6_isNot_7 (by decide) (by unfold in32; omega) (by unfold in32; omega) (fun c7 => ?_) (fun c7 => ?_)
    · refine k_iconst hE dX6_isNot_14 ?_
      exact k_zret hR dX6_isNot_15 rfl (nar_b (by omega)) ⟨_, rfl, rfl, by omega⟩
    · refine k_iconst hE dX6_isNot_10 ?_
      refine k_goto hE 15 dX6_isNot_11 (by decide) ?_
      exact k_zret hR dX6_isNot_15 rfl (nar_b (by omega)) ⟨_, rfl, rfl, by omega⟩

set_option maxHeartbeats 4000000 in
set_option maxRecDepth 100000 in
theorem c_X6_noDay {ad : Nat → Nat} {ta sa ca : Int → Nat} {D : va_G} {cI cT cS : ClassId} (st : Sg) (d : Int) (i_d : -2147483648 ≤ d ∧ d < 2147483648) : MC (xw ad ta sa ca D cI cT cS) yX6_noDay cX6_noDay 1 (some .boolean) { frames := 1, cells := 0, slots := 0, locals := 22 } [.int (iI d)] st (fun rv u => ∃ z : Int, rv = some (.int (iI (z))) ∧ u = st ∧ ((z = 1 ∧ (d < 0 ∨ 9 < d)) ∨ (z = 0 ∧ ¬ (d < 0 ∨ 9 < d)))) := by
  refine MC_intro RX6 (by decide) rfl (Nat.le_of_ble_eq_true rfl) ?_
  intro G H0 m hE hR
  refine k_lo [0] (lo' := [(0, .int (iI d))]) rfl ?_
  refine k_iconst hE dX6_noDay_0 ?_
  refine k_iload_n hE dX6_noDay_1 0 rfl rfl ?_
  refine k_bipush hE dX6_noDay_2 rfl ?_
  refine k_callS hE (c_X6_isNot st 0 d 9 (by omega) (by omega) (by omega)) ms_X6_isNot ml_X6_104 rfl ⟨rfl, rfl, Nat.le_of_ble_eq_true rfl, Nat.le_of_ble_eq_true rfl⟩ [] (Nat.le_of_ble_eq_true rfl) dX6_noDay_4 rfl (fun rv u hp => ?_)
  obtain ⟨z1, hv4, hu4, hz_4⟩ := hp
  refine k_sk (sk' := [.int (iI z1)]) (by rw [hv4]; rfl) ?_
  refine k_st st hu4 ?_
  exact k_zret hR dX6_noDay_7 rfl (nar_b (by omega)) ⟨_, rfl, rfl, by omega⟩

set_option maxHeartbeats 4000000 in
set_option maxRecDepth 100000 in
theorem c_X6_noSheet {ad : Nat → Nat} {ta sa ca : Int → Nat} {D : va_G} {cI cT cS : ClassId} (st : Sg) (k : Int) (i_k : -2147483648 ≤ k ∧ k < 2147483648) : MC (xw ad ta sa ca D cI cT cS) yX6_noSheet cX6_noSheet 1 (some .boolean) { frames := 1, cells := 0, slots := 0, locals := 22 } [.int (iI k)] st (fun rv u => ∃ z : Int, rv = some (.int (iI (z))) ∧ u = st ∧ ((z = 1 ∧ (k < 0 ∨ 3 < k)) ∨ (z = 0 ∧ ¬ (k < 0 ∨ 3 < k)))) := by
  refine MC_intro RX6 (by decide) rfl (Nat.le_of_ble_eq_true rfl) ?_
  intro G H0 m hE hR
  refine k_lo [0] (lo' := [(0, .int (iI k))]) rfl ?_
  refine k_iconst hE dX6_noSheet_0 ?_
  refine k_iload_n hE dX6_noSheet_1 0 rfl rfl ?_
  refine k_iconst hE dX6_noSheet_2 ?_
  refine k_callS hE (c_X6_isNot st 0 k 3 (by omega) (by omega) (by omega)) ms_X6_isNot ml_X6_104 rfl ⟨rfl, rfl, Nat.le_of_ble_eq_true rfl, Nat.le_of_ble_eq_true rfl⟩ [] (Nat.le_of_ble_eq_true rfl) dX6_noSheet_3 rfl (fun rv u hp => ?_)
  obtain ⟨z1, hv3, hu3, hz_3⟩ := hp
  refine k_sk (sk' := [.int (iI z1)]) (by rw [hv3]; rfl) ?_
  refine k_st st hu3 ?_
  exact k_zret hR dX6_noSheet_6 rfl (nar_b (by omega)) ⟨_, rfl, rfl, by omega⟩

set_option maxHeartbeats 4000000 in
set_option maxRecDepth 100000 in
theorem c_X6_noLane {ad : Nat → Nat} {ta sa ca : Int → Nat} {D : va_G} {cI cT cS : ClassId} (st : Sg) (k : Int) (i_k : -2147483648 ≤ k ∧ k < 2147483648) : MC (xw ad ta sa ca D cI cT cS) yX6_noLane cX6_noLane 1 (some .boolean) { frames := 1, cells := 0, slots := 0, locals := 22 } [.int (iI k)] st (fun rv u => ∃ z : Int, rv = some (.int (iI (z))) ∧ u = st ∧ ((z = 1 ∧ (k < 0 ∨ 2 < k)) ∨ (z = 0 ∧ ¬ (k < 0 ∨ 2 < k)))) := by
  refine MC_intro RX6 (by decide) rfl (Nat.le_of_ble_eq_true rfl) ?_
  intro G H0 m hE hR
  refine k_lo [0] (lo' := [(0, .int (iI k))]) rfl ?_
  refine k_iconst hE dX6_noLane_0 ?_
  refine k_iload_n hE dX6_noLane_1 0 rfl rfl ?_
  refine k_iconst hE dX6_noLane_2 ?_
  refine k_callS hE (c_X6_isNot st 0 k 2 (by omega) (by omega) (by omega)) ms_X6_isNot ml_X6_104 rfl ⟨rfl, rfl, Nat.le_of_ble_eq_true rfl, Nat.le_of_ble_eq_true rfl⟩ [] (Nat.le_of_ble_eq_true rfl) dX6_noLane_3 rfl (fun rv u hp => ?_)
  obtain ⟨z1, hv3, hu3, hz_3⟩ := hp
  refine k_sk (sk' := [.int (iI z1)]) (by rw [hv3]; rfl) ?_
  refine k_st st hu3 ?_
  exact k_zret hR dX6_noLane_6 rfl (nar_b (by omega)) ⟨_, rfl, rfl, by omega⟩

set_option maxHeartbeats 4000000 in
set_option maxRecDepth 100000 in
theorem c_X6_noYard {ad : Nat → Nat} {ta sa ca : Int → Nat} {D : va_G} {cI cT cS : ClassId} (st : Sg) (Y : Sg) (hA : Ag st Y) (hI : Inv Y) : MC (xw ad ta sa ca D cI cT cS) yX6_noYard cX6_noYard 1 (some .boolean) { frames := 0, cells := 0, slots := 0, locals := 0 } [.ref (ad 0)] st (fun rv u => ∃ z : Int, rv = some (.int (iI (z))) ∧ u = st ∧ ((z = 1 ∧ (Y.1 0 = 0)) ∨ (z = 0 ∧ ¬ (Y.1 0 = 0)))) := by
  refine MC_intro RX6 (by decide) rfl (Nat.le_of_ble_eq_true rfl) ?_
  intro G H0 m hE hR
  refine k_lo [0] (lo' := [(0, .ref (ad 0))]) rfl ?_
  obtain ⟨hi0, hi1, hi2, hi3, hi4, hi5, hi6, hi7, hit, hir, him, hin⟩ := id hI
  refine k_aload_n hE dX6_noYard_0 0 rfl rfl ?_
  refine x_get_X6_yard hE fl_X6_12 dX6_noYard_1 ?_
  refine x_get_X5_tapCount hE (z := Y.1 0) (hA.1 0 (by decide)) fl_X6_76 dX6_noYard_4 ?_
  refine k_if_ne hE 14 dX6_noYard_7 (by decide) (by unfold in32; omega) (fun c7 => ?_) (fun c7 => ?_)
  · refine k_iconst hE dX6_noYard_14 ?_
    exact k_zret hR dX6_noYard_15 rfl (nar_b (by omega)) ⟨_, rfl, rfl, by omega⟩
  · refine k_iconst hE dX6_noYard_10 ?_
    refine k_goto hE 15 dX6_noYard_11 (by decide) ?_
    exact k_zret hR dX6_noYard_15 rfl (nar_b (by omega)) ⟨_, rfl, rfl, by omega⟩

set_option maxHeartbeats 4000000 in
set_option maxRecDepth 100000 in
theorem c_X6_noTap {ad : Nat → Nat} {ta sa ca : Int → Nat} {D : va_G} {cI cT cS : ClassId} (st : Sg) (Y : Sg) (f : Int) (hA : Ag st Y) (hI : Inv Y) (i_f : -2147483648 ≤ f ∧ f < 2147483648) : MC (xw ad ta sa ca D cI cT cS) yX6_noTap cX6_noTap 2 (some .boolean) { frames := 0, cells := 0, slots := 0, locals := 0 } [.ref (ad 0), .int (iI f)] st (fun rv u => ∃ z : Int, rv = some (.int (iI (z))) ∧ u = st ∧ ((z = 1 ∧ (f < 0 ∨ Y.1 0 ≤ f)) ∨ (z = 0 ∧ ¬ (f < 0 ∨ Y.1 0 ≤ f)))) := by
  refine MC_intro RX6 (by decide) rfl (Nat.le_of_ble_eq_true rfl) ?_
  intro G H0 m hE hR
  refine k_lo [0, 1] (lo' := [(0, .ref (ad 0)), (1, .int (iI f))]) rfl ?_
  obtain ⟨hi0, hi1, hi2, hi3, hi4, hi5, hi6, hi7, hit, hir, him, hin⟩ := id hI
  refine k_iload_n hE dX6_noTap_0 1 rfl rfl ?_
  refine k_if_lt hE 15 dX6_noTap_1 (by decide) (by unfold in32; omega) (fun c1 => ?_) (fun c1 => ?_)
  · refine k_iconst hE dX6_noTap_15 ?_
    refine k_goto hE 20 dX6_noTap_16 (by decide) ?_
    exact k_zret hR dX6_noTap_20 rfl (nar_b (by omega)) ⟨_, rfl, rfl, by omega⟩
  · refine k_iload_n hE dX6_noTap_4 1 rfl rfl ?_
    refine k_aload_n hE dX6_noTap_5 0 rfl rfl ?_
    refine x_get_X6_yard hE fl_X6_12 dX6_noTap_6 ?_
    refine x_get_X5_tapCount hE (z := Y.1 0) (hA.1 0 (by decide)) fl_X6_76 dX6_noTap_9 ?_
    refine k_icmp_lt hE 19 dX6_noTap_12 (by decide) (by unfold in32; omega) (by unfold in32; omega) (fun c12 => ?_) (fun c12 => ?_)
    · refine k_iconst hE dX6_noTap_19 ?_
      exact k_zret hR dX6_noTap_20 rfl (nar_b (by omega)) ⟨_, rfl, rfl, by omega⟩
    · refine k_iconst hE dX6_noTap_15 ?_
      refine k_goto hE 20 dX6_noTap_16 (by decide) ?_
      exact k_zret hR dX6_noTap_20 rfl (nar_b (by omega)) ⟨_, rfl, rfl, by omega⟩

set_option maxHeartbeats 4000000 in
set_option maxRecDepth 100000 in
theorem c_X6_failBy {ad : Nat → Nat} {ta sa ca : Int → Nat} {D : va_G} {cI cT cS : ClassId} (st : Sg) (k : Int)  : MC (xw ad ta sa ca D cI cT cS) yX6_failBy cX6_failBy 2 (some .int) { frames := 0, cells := 0, slots := 0, locals := 0 } [.ref (ad 0), .int (iI k)] st (fun rv u => rv = some (.int (iI (-10 - k))) ∧ u = (uv st.1 9 k, st.2)) := by
  refine MC_intro RX6 (by decide) rfl (Nat.le_of_ble_eq_true rfl) ?_
  intro G H0 m hE hR
  refine k_lo [0, 1] (lo' := [(0, .ref (ad 0)), (1, .int (iI k))]) rfl ?_
  refine k_aload_n hE dX6_failBy_0 0 rfl rfl ?_
  refine k_iload_n hE dX6_failBy_1 1 rfl rfl ?_
  refine x_put_X6_lastFault hE fl_X6_41 dX6_failBy_2 ?_
  refine k_st ((uv st.1 9 k, st.2)) rfl ?_
  refine k_bipush hE dX6_failBy_5 rfl ?_
  refine k_iload_n hE dX6_failBy_7 1 rfl rfl ?_
  refine k_isub hE dX6_failBy_8 ?_
  exact k_iret hR dX6_failBy_9 rfl ⟨rfl, rfl⟩

set_option maxHeartbeats 4000000 in
set_option maxRecDepth 100000 in
theorem c_X6_leaveTrace {ad : Nat → Nat} {ta sa ca : Int → Nat} {D : va_G} {cI cT cS : ClassId} (st : Sg) (k : Int)  : MC (xw ad ta sa ca D cI cT cS) yX6_leaveTrace cX6_leaveTrace 2 none { frames := 0, cells := 0, slots := 0, locals := 0 } [.ref (ad 0), .int (iI k)] st (fun rv u => rv = none ∧ u = (uv st.1 8 (31 * st.1 8 + k), st.2)) := by
  refine MC_intro RX6 (by decide) rfl (Nat.le_of_ble_eq_true rfl) ?_
  intro G H0 m hE hR
  refine k_lo [0, 1] (lo' := [(0, .ref (ad 0)), (1, .int (iI k))]) rfl ?_
  refine k_aload_n hE dX6_leaveTrace_0 0 rfl rfl ?_
  refine k_bipush hE dX6_leaveTrace_1 rfl ?_
  refine k_aload_n hE dX6_leaveTrace_3 0 rfl rfl ?_
  refine x_get_X6_traceLeft hE (z := st.1 8) rfl fl_X6_219 dX6_leaveTrace_4 ?_
  refine k_imul hE dX6_leaveTrace_7 ?_
  refine k_iload_n hE dX6_leaveTrace_8 1 rfl rfl ?_
  refine k_iadd hE dX6_leaveTrace_9 ?_
  refine x_put_X6_traceLeft hE fl_X6_219 dX6_leaveTrace_10 ?_
  refine k_st ((uv st.1 8 ((31 * (st.1 8)) + k), st.2)) rfl ?_
  exact k_vret hR dX6_leaveTrace_13 rfl ⟨rfl, rfl⟩

set_option maxHeartbeats 4000000 in
set_option maxRecDepth 100000 in
theorem c_X2_hasCells {ad : Nat → Nat} {ta sa ca : Int → Nat} {D : va_G} {cI cT cS : ClassId} (st : Sg) (k : Int) (i : Int) (n : Int) (h0 : 0 ≤ k) (h1 : k < 4) (i_i : -2147483648 ≤ i ∧ i < 2147483648) (i_n : -2147483648 ≤ n ∧ n < 2147483648) (hs : 0 ≤ st.2 8 k ∧ st.2 8 k ≤ 60) : MC (xw ad ta sa ca D cI cT cS) yX2_hasCells cX2_hasCells 3 (some .boolean) { frames := 0, cells := 0, slots := 0, locals := 0 } [.ref (sa k), .int (iI i), .int (iI n)] st (fun rv u => ∃ z : Int, rv = some (.int (iI (z))) ∧ u = st ∧ ((z = 1 ∧ (0 ≤ i ∧ i ≤ st.2 8 k ∧ 0 ≤ n ∧ n ≤ st.2 8 k - i)) ∨ (z = 0 ∧ ¬ (0 ≤ i ∧ i ≤ st.2 8 k ∧ 0 ≤ n ∧ n ≤ st.2 8 k - i)))) := by
  refine MC_intro RX2 (by decide) rfl (Nat.le_of_ble_eq_true rfl) ?_
  intro G H0 m hE hR
  refine k_lo [0, 1, 2] (lo' := [(0, .ref (sa k)), (1, .int (iI i)), (2, .int (iI n))]) rfl ?_
  refine k_iload_n hE dX2_hasCells_0 1 rfl rfl ?_
  refine k_if_lt hE 30 dX2_hasCells_1 (by decide) (by unfold in32; omega) (fun c1 => ?_) (fun c1 => ?_)
  · refine k_iconst hE dX2_hasCells_30 ?_
    exact k_zret hR dX2_hasCells_31 rfl (nar_b (by omega)) ⟨_, rfl, rfl, by omega⟩
  · refine k_iload_n hE dX2_hasCells_4 1 rfl rfl ?_
    refine k_aload_n hE dX2_hasCells_5 0 rfl rfl ?_
    refine x_get_X2_size hE (z := st.2 8 k) (by omega) (by omega) rfl fl_X2_19 dX2_hasCells_6 ?_
    refine k_icmp_gt hE 30 dX2_hasCells_9 (by decide) (by unfold in32; omega) (by unfold in32; omega) (fun c9 => ?_) (fun c9 => ?_)
    · refine k_iconst hE dX2_hasCells_30 ?_
      exact k_zret hR dX2_hasCells_31 rfl (nar_b (by omega)) ⟨_, rfl, rfl, by omega⟩
    · refine k_iload_n hE dX2_hasCells_12 2 rfl rfl ?_
      refine k_if_lt hE 30 dX2_hasCells_13 (by decide) (by unfold in32; omega) (fun c13 => ?_) (fun c13 => ?_)
      · refine k_iconst hE dX2_hasCells_30 ?_
        exact k_zret hR dX2_hasCells_31 rfl (nar_b (by omega)) ⟨_, rfl, rfl, by omega⟩
      · refine k_iload_n hE dX2_hasCells_16 2 rfl rfl ?_
        refine k_aload_n hE dX2_hasCells_17 0 rfl rfl ?_
        refine x_get_X2_size hE (z := st.2 8 k) (by omega) (by omega) rfl fl_X2_19 dX2_hasCells_18 ?_
        refine k_iload_n hE dX2_hasCells_21 1 rfl rfl ?_
        refine k_isub hE dX2_hasCells_22 ?_
        refine k_icmp_gt hE 30 dX2_hasCells_23 (by decide) (by unfold in32; omega) (by unfold in32; omega) (fun c23 => ?_) (fun c23 => ?_)
        · refine k_iconst hE dX2_hasCells_30 ?_
          exact k_zret hR dX2_hasCells_31 rfl (nar_b (by omega)) ⟨_, rfl, rfl, by omega⟩
        · refine k_iconst hE dX2_hasCells_26 ?_
          refine k_goto hE 31 dX2_hasCells_27 (by decide) ?_
          exact k_zret hR dX2_hasCells_31 rfl (nar_b (by omega)) ⟨_, rfl, rfl, by omega⟩

set_option maxHeartbeats 4000000 in
set_option maxRecDepth 100000 in
theorem c_X2_faultAsLane {ad : Nat → Nat} {ta sa ca : Int → Nat} {D : va_G} {cI cT cS : ClassId} (st : Sg) (k : Int) (l : Int) (h0 : 0 ≤ k) (h1 : k < 4) (i_l : -2147483648 ≤ l ∧ l < 2147483648) (hs : -1 ≤ st.2 7 k ∧ st.2 7 k ≤ 2) : MC (xw ad ta sa ca D cI cT cS) yX2_faultAsLane cX2_faultAsLane 2 (some .int) { frames := 0, cells := 0, slots := 0, locals := 0 } [.ref (sa k), .int (iI l)] st (fun rv u => rv = some (.int (iI (if st.2 7 k = -1 then 1 else if st.2 7 k = l then 0 else 2))) ∧ u = st) := by
  refine MC_intro RX2 (by decide) rfl (Nat.le_of_ble_eq_true rfl) ?_
  intro G H0 m hE hR
  refine k_lo [0, 1] (lo' := [(0, .ref (sa k)), (1, .int (iI l))]) rfl ?_
  refine k_aload_n hE dX2_faultAsLane_0 0 rfl rfl ?_
  refine x_get_X2_lane hE (z := st.2 7 k) (by omega) (by omega) rfl fl_X2_15 dX2_faultAsLane_1 ?_
  refine k_iconst hE dX2_faultAsLane_4 ?_
  refine k_icmp_ne hE 10 dX2_faultAsLane_5 (by decide) (by unfold in32; omega) (by unfold in32; omega) (fun c5 => ?_) (fun c5 => ?_)
  · refine k_aload_n hE dX2_faultAsLane_10 0 rfl rfl ?_
    refine x_get_X2_lane hE (z := st.2 7 k) (by omega) (by omega) rfl fl_X2_15 dX2_faultAsLane_11 ?_
    refine k_iload_n hE dX2_faultAsLane_14 1 rfl rfl ?_
    refine k_icmp_ne hE 22 dX2_faultAsLane_15 (by decide) (by unfold in32; omega) (by unfold in32; omega) (fun c15 => ?_) (fun c15 => ?_)
    · refine k_iconst hE dX2_faultAsLane_22 ?_
      exact k_iret hR dX2_faultAsLane_23 rfl ⟨ret_i (by repeat (first | omega | split)), rfl⟩
    · refine k_iconst hE dX2_faultAsLane_18 ?_
      refine k_goto hE 23 dX2_faultAsLane_19 (by decide) ?_
      exact k_iret hR dX2_faultAsLane_23 rfl ⟨ret_i (by repeat (first | omega | split)), rfl⟩
  · refine k_iconst hE dX2_faultAsLane_8 ?_
    exact k_iret hR dX2_faultAsLane_9 rfl ⟨ret_i (by repeat (first | omega | split)), rfl⟩

set_option maxHeartbeats 4000000 in
set_option maxRecDepth 100000 in
theorem c_X2_cutToLane {ad : Nat → Nat} {ta sa ca : Int → Nat} {D : va_G} {cI cT cS : ClassId} (st : Sg) (k : Int) (v : Int) (h0 : 0 ≤ k) (h1 : k < 4) (hs : -1 ≤ st.2 7 k ∧ st.2 7 k ≤ 2) : MC (xw ad ta sa ca D cI cT cS) yX2_cutToLane cX2_cutToLane 2 (some .int) { frames := 0, cells := 0, slots := 0, locals := 0 } [.ref (sa k), .int (iI v)] st (fun rv u => rv = some (.int (iI (if st.2 7 k = 0 then b8 v else if st.2 7 k = 1 then s16 v else v))) ∧ u = st) := by
  refine MC_intro RX2 (by decide) rfl (Nat.le_of_ble_eq_true rfl) ?_
  intro G H0 m hE hR
  refine k_lo [0, 1] (lo' := [(0, .ref (sa k)), (1, .int (iI v))]) rfl ?_
  refine k_aload_n hE dX2_cutToLane_0 0 rfl rfl ?_
  refine x_get_X2_lane hE (z := st.2 7 k) (by omega) (by omega) rfl fl_X2_15 dX2_cutToLane_1 ?_
  refine k_if_ne hE 10 dX2_cutToLane_4 (by decide) (by unfold in32; omega) (fun c4 => ?_) (fun c4 => ?_)
  · refine k_aload_n hE dX2_cutToLane_10 0 rfl rfl ?_
    refine x_get_X2_lane hE (z := st.2 7 k) (by omega) (by omega) rfl fl_X2_15 dX2_cutToLane_11 ?_
    refine k_iconst hE dX2_cutToLane_14 ?_
    refine k_icmp_ne hE 23 dX2_cutToLane_15 (by decide) (by unfold in32; omega) (by unfold in32; omega) (fun c15 => ?_) (fun c15 => ?_)
    · refine k_iload_n hE dX2_cutToLane_23 1 rfl rfl ?_
      exact k_iret hR dX2_cutToLane_24 rfl ⟨ret_i (by repeat (first | omega | split)), rfl⟩
    · refine k_iload_n hE dX2_cutToLane_18 1 rfl rfl ?_
      refine k_i2s hE dX2_cutToLane_19 ?_
      refine k_goto hE 24 dX2_cutToLane_20 (by decide) ?_
      exact k_iret hR dX2_cutToLane_24 rfl ⟨ret_i (by repeat (first | omega | split)), rfl⟩
  · refine k_iload_n hE dX2_cutToLane_7 1 rfl rfl ?_
    refine k_i2b hE dX2_cutToLane_8 ?_
    exact k_iret hR dX2_cutToLane_9 rfl ⟨ret_i (by repeat (first | omega | split)), rfl⟩

set_option maxHeartbeats 4000000 in
set_option maxRecDepth 100000 in
theorem c_X4_isDigit {ad : Nat → Nat} {ta sa ca : Int → Nat} {D : va_G} {cI cT cS : ClassId} (st : Sg) (c : Int) (i_c : -2147483648 ≤ c ∧ c < 2147483648) : MC (xw ad ta sa ca D cI cT cS) yX4_isDigit cX4_isDigit 1 (some .boolean) { frames := 0, cells := 0, slots := 0, locals := 0 } [.int (iI c)] st (fun rv u => ∃ z : Int, rv = some (.int (iI (z))) ∧ u = st ∧ ((z = 1 ∧ (48 ≤ c ∧ c ≤ 57)) ∨ (z = 0 ∧ ¬ (48 ≤ c ∧ c ≤ 57)))) := by
  refine MC_intro RX4 (by decide) rfl (Nat.le_of_ble_eq_true rfl) ?_
  intro G H0 m hE hR
  refine k_lo [0] (lo' := [(0, .int (iI c))]) rfl ?_
  refine k_iload_n hE dX4_isDigit_0 0 rfl rfl ?_
  refine k_bipush hE dX4_isDigit_1 rfl ?_
  refine k_icmp_lt hE 16 dX4_isDigit_3 (by decide) (by unfold in32; omega) (by unfold in32; omega) (fun c3 => ?_) (fun c3 => ?_)
  · refine k_iconst hE dX4_isDigit_16 ?_
    exact k_zret hR dX4_isDigit_17 rfl (nar_b (by omega)) ⟨_, rfl, rfl, by omega⟩
  · refine k_iload_n hE dX4_isDigit_6 0 rfl rfl ?_
    refine k_bipush hE dX4_isDigit_7 rfl ?_
    refine k_icmp_gt hE 16 dX4_isDigit_9 (by decide) (by unfold in32; omega) (by unfold in32; omega) (fun c9 => ?_) (fun c9 => ?_)
    · refine k_iconst hE dX4_isDigit_16 ?_
      exact k_zret hR dX4_isDigit_17 rfl (nar_b (by omega)) ⟨_, rfl, rfl, by omega⟩
    · refine k_iconst hE dX4_isDigit_12 ?_
      refine k_goto hE 17 dX4_isDigit_13 (by decide) ?_
      exact k_zret hR dX4_isDigit_17 rfl (nar_b (by omega)) ⟨_, rfl, rfl, by omega⟩

set_option maxHeartbeats 4000000 in
set_option maxRecDepth 100000 in
theorem c_X4_kindOf {ad : Nat → Nat} {ta sa ca : Int → Nat} {D : va_G} {cI cT cS : ClassId} (st : Sg) (c : Int) (i_c : -2147483648 ≤ c ∧ c < 2147483648) : MC (xw ad ta sa ca D cI cT cS) yX4_kindOf cX4_kindOf 1 (some .int) { frames := 0, cells := 0, slots := 0, locals := 0 } [.int (iI c)] st (fun rv u => rv = some (.int (iI (if c = 111 then 2 else if c = 103 then 1 else 0))) ∧ u = st) := by
  refine MC_intro RX4 (by decide) rfl (Nat.le_of_ble_eq_true rfl) ?_
  intro G H0 m hE hR
  refine k_lo [0] (lo' := [(0, .int (iI c))]) rfl ?_
  refine k_iload_n hE dX4_kindOf_0 0 rfl rfl ?_
  refine k_bipush hE dX4_kindOf_1 rfl ?_
  refine k_icmp_ne hE 8 dX4_kindOf_3 (by decide) (by unfold in32; omega) (by unfold in32; omega) (fun c3 => ?_) (fun c3 => ?_)
  · refine k_iload_n hE dX4_kindOf_8 0 rfl rfl ?_
    refine k_bipush hE dX4_kindOf_9 rfl ?_
    refine k_icmp_ne hE 18 dX4_kindOf_11 (by decide) (by unfold in32; omega) (by unfold in32; omega) (fun c11 => ?_) (fun c11 => ?_)
    · refine k_iconst hE dX4_kindOf_18 ?_
      exact k_iret hR dX4_kindOf_19 rfl ⟨ret_i (by repeat (first | omega | split)), rfl⟩
    · refine k_iconst hE dX4_kindOf_14 ?_
      refine k_goto hE 19 dX4_kindOf_15 (by decide) ?_
      exact k_iret hR dX4_kindOf_19 rfl ⟨ret_i (by repeat (first | omega | split)), rfl⟩
  · refine k_iconst hE dX4_kindOf_6 ?_
    exact k_iret hR dX4_kindOf_7 rfl ⟨ret_i (by repeat (first | omega | split)), rfl⟩
end
section
set_option maxHeartbeats 4000000 in
set_option maxRecDepth 100000 in
theorem c_X2_makeRow {ad : Nat → Nat} {ta sa ca : Int → Nat} {D : va_G} {cI cT cS : ClassId} (st : Sg) (k : Int) (l : Int) (n : Int) (h0 : 0 ≤ k) (h1 : k < 4) (hn : 0 ≤ n ∧ n ≤ 60) : MC (xw ad ta sa ca D cI cT cS) yX2_makeRow cX2_makeRow 4 none { frames := 0, cells := 0, slots := 0, locals := 0 } [.ref (sa k), .int (iI l), .int (iI n)] st (fun rv u => ∃ S : Sg, rv = none ∧ u = S ∧ (S.1 = st.1) ∧ (∀ a, a ≠ 20 + Int.toNat k → S.2 a = (ur (ur st.2 7 k l) 8 k n) a) ∧ (∀ i : Int, 0 ≤ i → i < n → S.2 (20 + Int.toNat k) i = 0)) := by
  refine MC_intro RX2 (by decide) rfl (Nat.le_of_ble_eq_true rfl) ?_
  intro G H0 m hE hR
  refine k_lo [0, 1, 2] (lo' := [(0, .ref (sa k)), (1, .int (iI l)), (2, .int (iI n))]) rfl ?_
  refine k_aload_n hE dX2_makeRow_0 0 rfl rfl ?_
  refine k_iload_n hE dX2_makeRow_1 1 rfl rfl ?_
  refine x_put_X2_lane hE (by omega) (by omega) fl_X2_15 dX2_makeRow_2 ?_
  refine k_st ((st.1, ur st.2 7 k l)) rfl ?_
  refine k_aload_n hE dX2_makeRow_5 0 rfl rfl ?_
  refine k_iload_n hE dX2_makeRow_6 2 rfl rfl ?_
  refine x_put_X2_size hE (by omega) (by omega) fl_X2_19 dX2_makeRow_7 ?_
  refine k_st ((st.1, ur (ur st.2 7 k l) 8 k n)) rfl ?_
  refine k_iconst hE dX2_makeRow_10 ?_
  refine k_istore_n hE dX2_makeRow_11 [1, 2, 3, 0] rfl (Nat.le_of_ble_eq_true rfl) (lo' := [(0, .ref (sa k)), (1, .int (iI l)), (2, .int (iI n)), (3, .int (iI 0))]) rfl ?_
  have L12 : ∀ (fu12 : Nat) (S : Sg) (i : Int), (0 ≤ i ∧ i ≤ n) → (n - i < fu12) → (S.1 = st.1) → (∀ a, a ≠ 20 + Int.toNat k → S.2 a = (ur (ur st.2 7 k l) 8 k n) a) → (∀ j : Int, 0 ≤ j → j < i → S.2 (20 + Int.toNat k) j = 0) → KW (xw ad ta sa ca D cI cT cS) G H0 m 4 S 12 [(0, .ref (sa k)), (1, .int (iI l)), (2, .int (iI n)), (3, .int (iI i))] [] := by
    intro fu12
    induction fu12 with
    | zero =>
      intro S i q0 q1 e1 e2 e3
      omega
    | succ fu12 ih12 =>
      intro S i q0 q1 e1 e2 e3
      refine k_iload_n hE dX2_makeRow_12 3 rfl rfl ?_
      refine k_iload_n hE dX2_makeRow_13 2 rfl rfl ?_
      refine k_icmp_ge hE 30 dX2_makeRow_14 (by decide) (by unfold in32; omega) (by unfold in32; omega) (fun c14 => ?_) (fun c14 => ?_)
      · exact k_vret hR dX2_makeRow_30 rfl ⟨S, rfl, rfl, e1, e2, fun i h1 h2 => e3 i h1 (by omega)⟩
      · refine k_aload_n hE dX2_makeRow_17 0 rfl rfl ?_
        refine x_get_X2_cells hE (by omega) (by omega) fl_X2_9 dX2_makeRow_18 ?_
        refine k_iload_n hE dX2_makeRow_21 3 rfl rfl ?_
        refine k_iconst hE dX2_makeRow_22 ?_
        refine x_st_cells hE (f := k) (by omega) (by omega) (by omega) (by omega) dX2_makeRow_23 ?_
        refine k_st ((S.1, ur S.2 (20 + Int.toNat k) i 0)) rfl ?_
        refine k_iinc hE dX2_makeRow_24 3 [1, 2, 3, 0] rfl (Nat.le_of_ble_eq_true rfl) (lo' := [(0, .ref (sa k)), (1, .int (iI l)), (2, .int (iI n)), (3, .int (iI (i + 1)))]) rfl ?_
        refine k_goto hE 12 dX2_makeRow_27 (by decide) ?_
        exact ih12 _ _ (by omega) (by omega) e1 (fun a ha => by show ur S.2 _ i 0 a = _; rw [ur_n _ _ _ ha]; exact e2 a ha) (fun j h1 h2 => by show ur S.2 _ i 0 _ j = 0; rw [ur_c]; split <;> first | rfl | exact e3 j h1 (by omega))
  exact L12 61 _ 0 (by omega) (by omega) rfl (fun a _ => rfl) (fun j h1 h2 => by omega)

set_option maxHeartbeats 4000000 in
set_option maxRecDepth 100000 in
theorem c_X4_digitAt {ad : Nat → Nat} {ta sa ca : Int → Nat} {D : va_G} {cI cT cS : ClassId} (st : Sg) (k : Int) (q : Int) (h0 : 0 ≤ k) (h1 : k < 4) (ha : 0 ≤ q ∧ q < 60) : MC (xw ad ta sa ca D cI cT cS) yX4_digitAt cX4_digitAt 2 (some .int) { frames := 0, cells := 0, slots := 0, locals := 0 } [.ref (sa k), .int (iI q)] st (fun rv u => rv = some (.int (iI (st.2 (20 + Int.toNat k) q - 48))) ∧ u = st) := by
  refine MC_intro RX4 (by decide) rfl (Nat.le_of_ble_eq_true rfl) ?_
  intro G H0 m hE hR
  refine k_lo [0, 1] (lo' := [(0, .ref (sa k)), (1, .int (iI q))]) rfl ?_
  refine k_aload_n hE dX4_digitAt_0 0 rfl rfl ?_
  refine x_get_X2_cells hE (by omega) (by omega) fl_X4_9 dX4_digitAt_1 ?_
  refine k_iload_n hE dX4_digitAt_4 1 rfl rfl ?_
  refine x_ld_cells hE (f := k) (z := st.2 ((20 + Int.toNat k)) q) (by omega) (by omega) (by omega) (by omega) rfl dX4_digitAt_5 ?_
  refine k_bipush hE dX4_digitAt_6 rfl ?_
  refine k_isub hE dX4_digitAt_8 ?_
  exact k_iret hR dX4_digitAt_9 rfl ⟨rfl, rfl⟩

set_option maxHeartbeats 4000000 in
set_option maxRecDepth 100000 in
theorem c_X1_addOne {ad : Nat → Nat} {ta sa ca : Int → Nat} {D : va_G} {cI cT cS : ClassId} (st : Sg) (d : Int) (v : Int) (hc : 0 ≤ st.1 7 ∧ st.1 7 < 8) : MC (xw ad ta sa ca D cI cT cS) yX1_addOne cX1_addOne 4 (some .int) { frames := 0, cells := 0, slots := 0, locals := 0 } [.ref (ad 9), .int (iI d), .int (iI v)] st (fun rv u => rv = some (.int (iI (st.1 7))) ∧ u = (uv st.1 7 (st.1 7 + 1), ur (ur st.2 5 (st.1 7) d) 6 (st.1 7) v)) := by
  refine MC_intro RX1 (by decide) rfl (Nat.le_of_ble_eq_true rfl) ?_
  intro G H0 m hE hR
  refine k_lo [0, 1, 2] (lo' := [(0, .ref (ad 9)), (1, .int (iI d)), (2, .int (iI v))]) rfl ?_
  refine k_aload_n hE dX1_addOne_0 0 rfl rfl ?_
  refine x_get_X1_count hE (z := st.1 7) rfl fl_X1_18 dX1_addOne_1 ?_
  refine k_istore_n hE dX1_addOne_4 [1, 2, 3, 0] rfl (Nat.le_of_ble_eq_true rfl) (lo' := [(0, .ref (ad 9)), (1, .int (iI d)), (2, .int (iI v)), (3, .int (iI (st.1 7)))]) rfl ?_
  refine k_aload_n hE dX1_addOne_5 0 rfl rfl ?_
  refine x_get_X1_day hE fl_X1_9 dX1_addOne_6 ?_
  refine k_iload_n hE dX1_addOne_9 3 rfl rfl ?_
  refine k_iload_n hE dX1_addOne_10 1 rfl rfl ?_
  refine x_st_mday hE (by omega) (by omega) dX1_addOne_11 ?_
  refine k_st ((st.1, ur st.2 5 (st.1 7) d)) rfl ?_
  refine k_aload_n hE dX1_addOne_12 0 rfl rfl ?_
  refine x_get_X1_height hE fl_X1_15 dX1_addOne_13 ?_
  refine k_iload_n hE dX1_addOne_16 3 rfl rfl ?_
  refine k_iload_n hE dX1_addOne_17 2 rfl rfl ?_
  refine x_st_mheight hE (by omega) (by omega) dX1_addOne_18 ?_
  refine k_st ((st.1, ur (ur st.2 5 (st.1 7) d) 6 (st.1 7) v)) rfl ?_
  refine k_aload_n hE dX1_addOne_19 0 rfl rfl ?_
  refine k_dup hE dX1_addOne_20 rfl ?_
  refine x_get_X1_count hE (z := st.1 7) rfl fl_X1_18 dX1_addOne_21 ?_
  refine k_iconst hE dX1_addOne_24 ?_
  refine k_iadd hE dX1_addOne_25 ?_
  refine x_put_X1_count hE fl_X1_18 dX1_addOne_26 ?_
  refine k_st ((uv st.1 7 ((st.1 7) + 1), ur (ur st.2 5 (st.1 7) d) 6 (st.1 7) v)) rfl ?_
  refine k_iload_n hE dX1_addOne_29 3 rfl rfl ?_
  exact k_iret hR dX1_addOne_30 rfl ⟨rfl, rfl⟩

set_option maxHeartbeats 4000000 in
set_option maxRecDepth 100000 in
theorem c_X5_leaksOut {ad : Nat → Nat} {ta sa ca : Int → Nat} {D : va_G} {cI cT cS : ClassId} (st : Sg) (Y : Sg) (w : Int) (hA : Ag st Y) (hI : Inv Y) (hw : -1000 ≤ w ∧ w ≤ 1000) : MC (xw ad ta sa ca D cI cT cS) yX5_leaksOut cX5_leaksOut 2 (some .int) { frames := 1, cells := 0, slots := 0, locals := 21 } [.ref (ad 1), .int (iI w)] st (fun rv u => rv = some (.int (iI (min (Y.1 6) (max 0 (w - Y.1 5 * Y.1 2))))) ∧ u = st) := by
  refine MC_intro RX5 (by decide) rfl (Nat.le_of_ble_eq_true rfl) ?_
  intro G H0 m hE hR
  refine k_lo [0, 1] (lo' := [(0, .ref (ad 1)), (1, .int (iI w))]) rfl ?_
  obtain ⟨hi0, hi1, hi2, hi3, hi4, hi5, hi6, hi7, hit, hir, him, hin⟩ := id hI
  have hm := mul99 hi5 hi2
  refine k_aload_n hE dX5_leaksOut_0 0 rfl rfl ?_
  refine x_get_X5_leakPails hE (z := Y.1 6) (hA.1 6 (by decide)) fl_X5_74 dX5_leaksOut_1 ?_
  refine k_iconst hE dX5_leaksOut_4 ?_
  refine k_iload_n hE dX5_leaksOut_5 1 rfl rfl ?_
  refine k_aload_n hE dX5_leaksOut_6 0 rfl rfl ?_
  refine x_get_X5_leakHeight hE (z := Y.1 5) (hA.1 5 (by decide)) fl_X5_71 dX5_leaksOut_7 ?_
  refine k_aload_n hE dX5_leaksOut_10 0 rfl rfl ?_
  refine x_get_X5_per hE (z := Y.1 2) (hA.1 2 (by decide)) fl_X5_32 dX5_leaksOut_11 ?_
  refine k_imul hE dX5_leaksOut_14 ?_
  refine k_isub hE dX5_leaksOut_15 ?_
  refine k_max hE ml_X5_77 dX5_leaksOut_16 (by unfold in32; omega) (by unfold in32; omega) (Nat.le_of_ble_eq_true rfl) (Nat.le_of_ble_eq_true rfl) ?_
  refine k_min hE ml_X5_35 dX5_leaksOut_19 (by unfold in32; omega) (by unfold in32; omega) (Nat.le_of_ble_eq_true rfl) (Nat.le_of_ble_eq_true rfl) ?_
  exact k_iret hR dX5_leaksOut_22 rfl ⟨rfl, rfl⟩

set_option maxHeartbeats 4000000 in
set_option maxRecDepth 100000 in
theorem c_X1_lastDay {ad : Nat → Nat} {ta sa ca : Int → Nat} {D : va_G} {cI cT cS : ClassId} (st : Sg) (Y : Sg) (hA : Ag st Y) (hI : Inv Y) : MC (xw ad ta sa ca D cI cT cS) yX1_lastDay cX1_lastDay 3 (some .int) { frames := 1, cells := 0, slots := 0, locals := 21 } [.ref (ad 9)] st (fun rv u => ∃ z : Int, rv = some (.int (iI (z))) ∧ u = st ∧ (0 ≤ z ∧ z ≤ 10) ∧ (∀ k : Int, 0 ≤ k → k < Y.1 7 → Y.2 5 k ≤ z)) := by
  refine MC_intro RX1 (by decide) rfl (Nat.le_of_ble_eq_true rfl) ?_
  intro G H0 m hE hR
  refine k_lo [0] (lo' := [(0, .ref (ad 9))]) rfl ?_
  obtain ⟨hi0, hi1, hi2, hi3, hi4, hi5, hi6, hi7, hit, hir, him, hin⟩ := id hI
  refine k_iconst hE dX1_lastDay_0 ?_
  refine k_istore_n hE dX1_lastDay_1 [1, 0] rfl (Nat.le_of_ble_eq_true rfl) (lo' := [(0, .ref (ad 9)), (1, .int (iI 0))]) rfl ?_
  refine k_iconst hE dX1_lastDay_2 ?_
  refine k_istore_n hE dX1_lastDay_3 [1, 2, 0] rfl (Nat.le_of_ble_eq_true rfl) (lo' := [(0, .ref (ad 9)), (1, .int (iI 0)), (2, .int (iI 0))]) rfl ?_
  have L4 : ∀ (fu4 : Nat) (a : Int) (k : Int), (0 ≤ k ∧ k ≤ Y.1 7) → (Y.1 7 - k < fu4) → (0 ≤ a ∧ a ≤ 10) → (∀ j : Int, 0 ≤ j → j < k → Y.2 5 j ≤ a) → KW (xw ad ta sa ca D cI cT cS) G H0 m 3 st 4 [(0, .ref (ad 9)), (1, .int (iI a)), (2, .int (iI k))] [] := by
    intro fu4
    induction fu4 with
    | zero =>
      intro a k q0 q1 q2 q3
      omega
    | succ fu4 ih4 =>
      intro a k q0 q1 q2 q3
      refine k_iload_n hE dX1_lastDay_4 2 rfl rfl ?_
      refine k_aload_n hE dX1_lastDay_5 0 rfl rfl ?_
      refine x_get_X1_count hE (z := Y.1 7) (hA.1 7 (by decide)) fl_X1_18 dX1_lastDay_6 ?_
      refine k_icmp_ge hE 29 dX1_lastDay_9 (by decide) (by unfold in32; omega) (by unfold in32; omega) (fun c9 => ?_) (fun c9 => ?_)
      · refine k_iload_n hE dX1_lastDay_29 1 rfl rfl ?_
        exact k_iret hR dX1_lastDay_30 rfl ⟨_, rfl, rfl, by omega, fun j h1 h2 => q3 j h1 (by omega)⟩
      · have hk := him k (by omega) (by omega)
        refine k_iload_n hE dX1_lastDay_12 1 rfl rfl ?_
        refine k_aload_n hE dX1_lastDay_13 0 rfl rfl ?_
        refine x_get_X1_day hE fl_X1_9 dX1_lastDay_14 ?_
        refine k_iload_n hE dX1_lastDay_17 2 rfl rfl ?_
        refine x_ld_mday hE (z := Y.2 5 k) (by omega) (by omega) (congrFun (hA.2 5 (by decide)) k) dX1_lastDay_18 ?_
        refine k_max hE ml_X1_22 dX1_lastDay_19 (by unfold in32; omega) (by unfold in32; omega) (Nat.le_of_ble_eq_true rfl) (Nat.le_of_ble_eq_true rfl) ?_
        refine k_istore_n hE dX1_lastDay_22 [1, 0, 2] rfl (Nat.le_of_ble_eq_true rfl) (lo' := [(0, .ref (ad 9)), (1, .int (iI (max a (Y.2 5 k)))), (2, .int (iI k))]) rfl ?_
        refine k_iinc hE dX1_lastDay_23 2 [1, 2, 0] rfl (Nat.le_of_ble_eq_true rfl) (lo' := [(0, .ref (ad 9)), (1, .int (iI (max a (Y.2 5 k)))), (2, .int (iI (k + 1)))]) rfl ?_
        refine k_goto hE 4 dX1_lastDay_26 (by decide) ?_
        exact ih4 _ _ (by omega) (by omega) (by omega) (fun j h1 h2 => by by_cases e : j = k; (subst e; omega); have := q3 j h1 (by omega); omega)
  exact L4 9 0 0 (by omega) (by omega) (by omega) (fun j h1 h2 => by omega)

set_option maxHeartbeats 4000000 in
set_option maxRecDepth 100000 in
theorem c_X1_holdAhead {ad : Nat → Nat} {ta sa ca : Int → Nat} {D : va_G} {cI cT cS : ClassId} (st : Sg) (Y : Sg) (d : Int) (w : Int) (hA : Ag st Y) (hI : Inv Y) (i_d : -2147483648 ≤ d ∧ d < 2147483648) (i_w : -2147483648 ≤ w ∧ w < 2147483648) : MC (xw ad ta sa ca D cI cT cS) yX1_holdAhead cX1_holdAhead 4 (some .boolean) { frames := 0, cells := 0, slots := 0, locals := 0 } [.ref (ad 9), .int (iI d), .int (iI w)] st (fun rv u => ∃ z : Int, rv = some (.int (iI (z))) ∧ u = st ∧ ((z = 1 ∧ (∀ k : Int, 0 ≤ k → k < Y.1 7 → Y.2 5 k = d → Y.2 6 k = w)) ∨ (z = 0 ∧ ¬ (∀ k : Int, 0 ≤ k → k < Y.1 7 → Y.2 5 k = d → Y.2 6 k = w)))) := by
  refine MC_intro RX1 (by decide) rfl (Nat.le_of_ble_eq_true rfl) ?_
  intro G H0 m hE hR
  refine k_lo [0, 1, 2] (lo' := [(0, .ref (ad 9)), (1, .int (iI d)), (2, .int (iI w))]) rfl ?_
  obtain ⟨hi0, hi1, hi2, hi3, hi4, hi5, hi6, hi7, hit, hir, him, hin⟩ := id hI
  refine k_iconst hE dX1_holdAhead_0 ?_
  refine k_istore_n hE dX1_holdAhead_1 [1, 2, 3, 0] rfl (Nat.le_of_ble_eq_true rfl) (lo' := [(0, .ref (ad 9)), (1, .int (iI d)), (2, .int (iI w)), (3, .int (iI 0))]) rfl ?_
  have L2 : ∀ (fu2 : Nat) (k : Int), (0 ≤ k ∧ k ≤ Y.1 7) → (Y.1 7 - k < fu2) → (∀ j : Int, 0 ≤ j → j < k → Y.2 5 j = d → Y.2 6 j = w) → KW (xw ad ta sa ca D cI cT cS) G H0 m 4 st 2 [(0, .ref (ad 9)), (1, .int (iI d)), (2, .int (iI w)), (3, .int (iI k))] [] := by
    intro fu2
    induction fu2 with
    | zero =>
      intro k q0 q1 q3
      omega
    | succ fu2 ih2 =>
      intro k q0 q1 q3
      refine k_iload_n hE dX1_holdAhead_2 3 rfl rfl ?_
      refine k_aload_n hE dX1_holdAhead_3 0 rfl rfl ?_
      refine x_get_X1_count hE (z := Y.1 7) (hA.1 7 (by decide)) fl_X1_18 dX1_holdAhead_4 ?_
      refine k_icmp_ge hE 38 dX1_holdAhead_7 (by decide) (by unfold in32; omega) (by unfold in32; omega) (fun c7 => ?_) (fun c7 => ?_)
      · refine k_iconst hE dX1_holdAhead_38 ?_
        exact k_zret hR dX1_holdAhead_39 rfl (nar_b (by omega)) ⟨_, rfl, rfl, Or.inl ⟨rfl, fun j h1 h2 h3 => q3 j h1 (by omega) h3⟩⟩
      · have hk := him k (by omega) (by omega)
        refine k_aload_n hE dX1_holdAhead_10 0 rfl rfl ?_
        refine x_get_X1_day hE fl_X1_9 dX1_holdAhead_11 ?_
        refine k_iload_n hE dX1_holdAhead_14 3 rfl rfl ?_
        refine x_ld_mday hE (z := Y.2 5 k) (by omega) (by omega) (congrFun (hA.2 5 (by decide)) k) dX1_holdAhead_15 ?_
        refine k_iload_n hE dX1_holdAhead_16 1 rfl rfl ?_
        refine k_icmp_ne hE 32 dX1_holdAhead_17 (by decide) (by unfold in32; omega) (by unfold in32; omega) (fun c17 => ?_) (fun c17 => ?_)
        · refine k_iinc hE dX1_holdAhead_32 3 [1, 2, 3, 0] rfl (Nat.le_of_ble_eq_true rfl) (lo' := [(0, .ref (ad 9)), (1, .int (iI d)), (2, .int (iI w)), (3, .int (iI (k + 1)))]) rfl ?_
          refine k_goto hE 2 dX1_holdAhead_35 (by decide) ?_
          exact ih2 _ (by omega) (by omega) (fun j h1 h2 h3 => by by_cases e : j = k; (subst e; omega); exact q3 j h1 (by omega) h3)
        · refine k_aload_n hE dX1_holdAhead_20 0 rfl rfl ?_
          refine x_get_X1_height hE fl_X1_15 dX1_holdAhead_21 ?_
          refine k_iload_n hE dX1_holdAhead_24 3 rfl rfl ?_
          refine x_ld_mheight hE (z := Y.2 6 k) (by omega) (by omega) (congrFun (hA.2 6 (by decide)) k) dX1_holdAhead_25 ?_
          refine k_iload_n hE dX1_holdAhead_26 2 rfl rfl ?_
          refine k_icmp_eq hE 32 dX1_holdAhead_27 (by decide) (by unfold in32; omega) (by unfold in32; omega) (fun c27 => ?_) (fun c27 => ?_)
          · refine k_iinc hE dX1_holdAhead_32 3 [1, 2, 3, 0] rfl (Nat.le_of_ble_eq_true rfl) (lo' := [(0, .ref (ad 9)), (1, .int (iI d)), (2, .int (iI w)), (3, .int (iI (k + 1)))]) rfl ?_
            refine k_goto hE 2 dX1_holdAhead_35 (by decide) ?_
            exact ih2 _ (by omega) (by omega) (fun j h1 h2 h3 => by by_cases e : j = k; (subst e; omega); exact q3 j h1 (by omega) h3)
          · refine k_iconst hE dX1_holdAhead_30 ?_
            exact k_zret hR dX1_holdAhead_31 rfl (nar_b (by omega)) ⟨_, rfl, rfl, Or.inr ⟨rfl, fun h => by have := h k (by omega) (by omega) (by omega); omega⟩⟩
  exact L2 9 0 (by omega) (by omega) (fun j h1 h2 => by omega)

set_option maxHeartbeats 4000000 in
set_option maxRecDepth 100000 in
theorem c_X5_beneathAllTaps {ad : Nat → Nat} {ta sa ca : Int → Nat} {D : va_G} {cI cT cS : ClassId} (st : Sg) (Y : Sg) (w : Int) (hA : Ag st Y) (hI : Inv Y) (hw : 0 ≤ w ∧ w ≤ 1000) : MC (xw ad ta sa ca D cI cT cS) yX5_beneathAllTaps cX5_beneathAllTaps 4 (some .int) { frames := 1, cells := 0, slots := 0, locals := 23 } [.ref (ad 1), .int (iI w)] st (fun rv u => ∃ z : Int, rv = some (.int (iI (w - z))) ∧ u = st ∧ (0 ≤ z ∧ z ≤ w) ∧ (∀ f : Int, 0 ≤ f → f < Y.1 0 → GV Y f w ≤ z) ∧ (z = 0 ∨ ∃ f : Int, 0 ≤ f ∧ f < Y.1 0 ∧ z = GV Y f w)) := by
  refine MC_intro RX5 (by decide) rfl (Nat.le_of_ble_eq_true rfl) ?_
  intro G H0 m hE hR
  refine k_lo [0, 1] (lo' := [(0, .ref (ad 1)), (1, .int (iI w))]) rfl ?_
  obtain ⟨hi0, hi1, hi2, hi3, hi4, hi5, hi6, hi7, hit, hir, him, hin⟩ := id hI
  refine k_iconst hE dX5_beneathAllTaps_0 ?_
  refine k_istore_n hE dX5_beneathAllTaps_1 [1, 2, 0] rfl (Nat.le_of_ble_eq_true rfl) (lo' := [(0, .ref (ad 1)), (1, .int (iI w)), (2, .int (iI 0))]) rfl ?_
  refine k_iconst hE dX5_beneathAllTaps_2 ?_
  refine k_istore_n hE dX5_beneathAllTaps_3 [1, 2, 3, 0] rfl (Nat.le_of_ble_eq_true rfl) (lo' := [(0, .ref (ad 1)), (1, .int (iI w)), (2, .int (iI 0)), (3, .int (iI 0))]) rfl ?_
  have L4 : ∀ (fu4 : Nat) (a : Int) (f : Int), (0 ≤ f ∧ f ≤ Y.1 0) → (Y.1 0 - f < fu4) → (0 ≤ a ∧ a ≤ w) → (∀ j : Int, 0 ≤ j → j < f → GV Y j w ≤ a) → (a = 0 ∨ ∃ j : Int, 0 ≤ j ∧ j < f ∧ a = GV Y j w) → KW (xw ad ta sa ca D cI cT cS) G H0 m 4 st 4 [(0, .ref (ad 1)), (1, .int (iI w)), (2, .int (iI a)), (3, .int (iI f))] [] := by
    intro fu4
    induction fu4 with
    | zero =>
      intro a f q0 q1 q2 q3 q4
      omega
    | succ fu4 ih4 =>
      intro a f q0 q1 q2 q3 q4
      refine k_iload_n hE dX5_beneathAllTaps_4 3 rfl rfl ?_
      refine k_aload_n hE dX5_beneathAllTaps_5 0 rfl rfl ?_
      refine x_get_X5_tapCount hE (z := Y.1 0) (hA.1 0 (by decide)) fl_X5_41 dX5_beneathAllTaps_6 ?_
      refine k_icmp_ge hE 29 dX5_beneathAllTaps_9 (by decide) (by unfold in32; omega) (by unfold in32; omega) (fun c9 => ?_) (fun c9 => ?_)
      · refine k_iload_n hE dX5_beneathAllTaps_29 1 rfl rfl ?_
        refine k_iload_n hE dX5_beneathAllTaps_30 2 rfl rfl ?_
        refine k_isub hE dX5_beneathAllTaps_31 ?_
        refine k_iret hR dX5_beneathAllTaps_32 rfl ?_
        refine ⟨a, rfl, rfl, by omega, fun j h1 h2 => q3 j h1 (by omega), ?_⟩
        rcases q4 with q4 | ⟨j, j1, j2, j3⟩
        · exact Or.inl q4
        · exact Or.inr ⟨j, j1, by omega, j3⟩
      · have hf := hit f (by omega) (by omega)
        have hm := mul99 hf.2.1 hi2
        have hg : 0 ≤ GV Y f w ∧ GV Y f w ≤ w := by unfold GV; omega
        refine k_iload_n hE dX5_beneathAllTaps_12 2 rfl rfl ?_
        refine k_aload_n hE dX5_beneathAllTaps_13 0 rfl rfl ?_
        refine k_iload_n hE dX5_beneathAllTaps_14 3 rfl rfl ?_
        refine k_iload_n hE dX5_beneathAllTaps_15 1 rfl rfl ?_
        refine k_callV hE (c_X5_givesAt st Y f w hA hI (by omega) (by omega) (by omega)) mf_X5_givesAt ml_X5_80 1 rfl rfl rfl rfl ⟨rfl, rfl, Nat.le_of_ble_eq_true rfl, Nat.le_of_ble_eq_true rfl⟩ [.int (iI a)] (Nat.le_of_ble_eq_true rfl) dX5_beneathAllTaps_16 rfl (fun rv u hp => ?_)
        obtain ⟨hv16, hu16⟩ := hp
        refine k_sk (sk' := [.int (iI (GV Y f w)), .int (iI a)]) (by rw [hv16]; rfl) ?_
        refine k_st st hu16 ?_
        refine k_max hE ml_X5_77 dX5_beneathAllTaps_19 (by unfold in32; omega) (by unfold in32; omega) (Nat.le_of_ble_eq_true rfl) (Nat.le_of_ble_eq_true rfl) ?_
        refine k_istore_n hE dX5_beneathAllTaps_22 [1, 2, 0, 3] rfl (Nat.le_of_ble_eq_true rfl) (lo' := [(0, .ref (ad 1)), (1, .int (iI w)), (2, .int (iI (max a (GV Y f w)))), (3, .int (iI f))]) rfl ?_
        refine k_iinc hE dX5_beneathAllTaps_23 3 [1, 2, 3, 0] rfl (Nat.le_of_ble_eq_true rfl) (lo' := [(0, .ref (ad 1)), (1, .int (iI w)), (2, .int (iI (max a (GV Y f w)))), (3, .int (iI (f + 1)))]) rfl ?_
        refine k_goto hE 4 dX5_beneathAllTaps_26 (by decide) ?_
        refine ih4 _ _ (by omega) (by omega) (by omega) (fun j h1 h2 => by by_cases e : j = f; (subst e; omega); have := q3 j h1 (by omega); omega) ?_
        rcases (show max a (GV Y f w) = a ∨ max a (GV Y f w) = GV Y f w by omega) with e | e
        · rw [e]
          rcases q4 with q4 | ⟨j, j1, j2, j3⟩
          · exact Or.inl q4
          · exact Or.inr ⟨j, j1, by omega, j3⟩
        · rw [e]; exact Or.inr ⟨f, by omega, by omega, rfl⟩
  exact L4 7 0 0 (by omega) (by omega) (by omega) (fun j h1 h2 => by omega) (Or.inl rfl)
end
section
/-! who draws when: the order of taps by a law -/
def KY (Y : Sg) (q f : Int) : Int := if q = 1 then Y.2 1 f else -(Y.2 1 f)
def BF (Y : Sg) (q a b : Int) : Prop := KY Y q a < KY Y q b ∨ (KY Y q a = KY Y q b ∧ a < b)
theorem BF_irr (Y : Sg) (q a : Int) : ¬ BF Y q a a := by unfold BF; omega
theorem BF_asym {Y : Sg} {q a b : Int} (h : BF Y q a b) : ¬ BF Y q b a := by unfold BF at *; omega
theorem BF_tot (Y : Sg) (q : Int) {a b : Int} (h : a ≠ b) : BF Y q a b ∨ BF Y q b a := by unfold BF; omega
theorem BF_tr {Y : Sg} {q a b c : Int} (h : BF Y q a b) (h2 : BF Y q b c) : BF Y q a c := by unfold BF at *; omega
def OR (Y : Sg) (q : Int) (o : Int → Int) (k : Nat) : Prop := (∀ i : Nat, i < k → 0 ≤ o i ∧ o i < Y.1 0) ∧ (∀ i j : Nat, i < j → j < k → BF Y q (o i) (o j)) ∧ (∀ f : Int, 0 ≤ f → f < Y.1 0 → ∃ i : Nat, i < k ∧ o i = f)
theorem OR_le {Y : Sg} {q : Int} {o o' : Int → Int} {k k' : Nat} (h : OR Y q o k) (h' : OR Y q o' k') : ∀ i : Nat, i < k → i < k' ∧ o i = o' i := by
  intro i
  induction i using Nat.strongRecOn with
  | ind i ih =>
    intro hi
    obtain ⟨j, hj, ej⟩ := h'.2.2 (o i) (h.1 i hi).1 (h.1 i hi).2
    rcases Nat.lt_trichotomy j i with c | c | c
    · have e := (ih j c (by omega)).2
      exact absurd (h.2.1 j i c hi) (by rw [e, ej]; exact BF_irr _ _ _)
    · subst c; exact ⟨hj, ej.symm⟩
    · have hi' : i < k' := by omega
      obtain ⟨l, hl, el⟩ := h.2.2 (o' i) (h'.1 i hi').1 (h'.1 i hi').2
      have b1 : BF Y q (o' i) (o i) := by rw [← ej]; exact h'.2.1 i j c hj
      rcases Nat.lt_trichotomy l i with d | d | d
      · have e := (ih l d (by omega)).2
        exact absurd (h'.2.1 l i d hi') (by rw [← e, el]; exact BF_irr _ _ _)
      · subst d; rw [el] at b1; exact absurd b1 (BF_irr _ _ _)
      · have b2 := h.2.1 i l d hl
        rw [el] at b2; exact absurd b1 (BF_asym b2)
theorem OR_k {Y : Sg} {q : Int} {o o' : Int → Int} {k k' : Nat} (h : OR Y q o k) (h' : OR Y q o' k') : k = k' := by
  rcases Nat.lt_trichotomy k k' with c | c | c
  · exact absurd (OR_le h' h k c).1 (by omega)
  · exact c
  · exact absurd (OR_le h h' k' c).1 (by omega)
/-- what one wishes: by law 3 its need -/
def WS (Y : Sg) (q f : Int) : Int := if q = 3 then Y.2 2 f else WN Y f
/-- what the first k have drawn -/
def DA (Y : Sg) (q : Int) (o : Int → Int) (w : Int) : Nat → Int
  | 0 => 0
  | k + 1 => DA Y q o w k + min (WS Y q (o k)) (GV Y (o k) (w - DA Y q o w k))
theorem DA_cong {Y : Sg} {q w : Int} {o o' : Int → Int} : ∀ {k : Nat}, (∀ i : Nat, i < k → o i = o' i) → DA Y q o w k = DA Y q o' w k
  | 0, _ => rfl
  | k + 1, h => by rw [DA, DA, DA_cong (fun i hi => h i (by omega)), h k (by omega)]
theorem WS_rng {Y : Sg} (hI : Inv Y) (q : Int) {f : Int} (h0 : 0 ≤ f) (h1 : f < 6) : 0 ≤ WS Y q f ∧ WS Y q f ≤ 14 ∧ Y.2 2 f ≤ WS Y q f := by
  have h2 := WN_rng hI h0 h1
  obtain ⟨-, -, -, -, -, -, -, -, ht, -⟩ := hI
  have := ht f h0 h1
  unfold WS
  split <;> omega
theorem GV_rng {Y : Sg} (hI : Inv Y) {f : Int} (h0 : 0 ≤ f) (h1 : f < 6) (w : Int) : 0 ≤ GV Y f w ∧ (0 ≤ w → GV Y f w ≤ w) := by
  obtain ⟨-, -, h2, -, -, -, -, -, ht, -⟩ := hI
  have hf := ht f h0 h1
  have := mul99 hf.2.1 h2
  unfold GV
  omega
theorem DA_rng {Y : Sg} (hI : Inv Y) {q w : Int} (hw : 0 ≤ w) {o : Int → Int} : ∀ {k : Nat}, (∀ i : Nat, i < k → 0 ≤ o i ∧ o i < Y.1 0) → 0 ≤ DA Y q o w k ∧ DA Y q o w k ≤ w
  | 0, _ => by rw [DA]; omega
  | k + 1, h => by
    have ih := DA_rng hI hw (q := q) (o := o) (k := k) (fun i hi => h i (by omega))
    have hk := h k (by omega)
    have h6 := hI.1
    have g := GV_rng hI hk.1 (by omega) (w - DA Y q o w k)
    have s := WS_rng hI q hk.1 (f := o k) (by omega)
    rw [DA]; omega
/-- what each gets when they draw in order, and all together -/
def GO (Y : Sg) (q w : Int) (g : Int → Int) (t : Int) : Prop := ∃ (o : Int → Int) (k : Nat), OR Y q o k ∧ t = DA Y q o w k ∧ ∀ i : Nat, i < k → g (o i) = DA Y q o w (i + 1) - DA Y q o w i
theorem GO_uni {Y : Sg} {q w : Int} {g g' : Int → Int} {t t' : Int} (h : GO Y q w g t) (h' : GO Y q w g' t') : t = t' ∧ ∀ f : Int, 0 ≤ f → f < Y.1 0 → g f = g' f := by
  obtain ⟨o, k, h1, h2, h3⟩ := h
  obtain ⟨o', k', h1', h2', h3'⟩ := h'
  have ek := OR_k h1 h1'
  subst ek
  have e : ∀ i : Nat, i < k → o i = o' i := fun i hi => (OR_le h1 h1' i hi).2
  refine ⟨by rw [h2, h2', DA_cong e], fun f f0 f1 => ?_⟩
  obtain ⟨i, hi, rfl⟩ := h1.2.2 f f0 f1
  rw [h3 i hi, e i hi, h3' i hi, DA_cong (k := i + 1) (fun j hj => e j (by omega)), DA_cong (k := i) (fun j hj => e j (by omega))]
/-! by turns -/
def TS (Y : Sg) (w f : Int) (s : Int × (Int → Int)) : Int × (Int → Int) :=
  (s.1 + min (min (Y.2 3 f) (WN Y f - s.2 f)) (GV Y f (w - s.1)), fun j => if j = f then s.2 j + min (min (Y.2 3 f) (WN Y f - s.2 f)) (GV Y f (w - s.1)) else s.2 j)
def TRd (Y : Sg) (w : Int) : Nat → Int × (Int → Int) → Int × (Int → Int)
  | 0, s => s
  | k + 1, s => TS Y w k (TRd Y w k s)
def TR (Y : Sg) (w : Int) : Nat → Int × (Int → Int)
  | 0 => (0, fun _ => 0)
  | n + 1 => TRd Y w (Y.1 0).toNat (TR Y w n)
def TI (Y : Sg) (w : Int) (s : Int × (Int → Int)) : Prop := (0 ≤ s.1 ∧ s.1 ≤ w) ∧ ∀ f : Int, 0 ≤ f → f < 6 → 0 ≤ s.2 f ∧ s.2 f ≤ WN Y f
theorem TS_p {Y : Sg} (hI : Inv Y) {w f : Int} (h0 : 0 ≤ f) (h1 : f < 6) {s : Int × (Int → Int)} (hs : TI Y w s) : 0 ≤ min (min (Y.2 3 f) (WN Y f - s.2 f)) (GV Y f (w - s.1)) ∧ min (min (Y.2 3 f) (WN Y f - s.2 f)) (GV Y f (w - s.1)) ≤ WN Y f - s.2 f ∧ min (min (Y.2 3 f) (WN Y f - s.2 f)) (GV Y f (w - s.1)) ≤ w - s.1 := by
  have g := GV_rng hI h0 h1 (w - s.1)
  have a := hs.1
  have b := hs.2 f h0 h1
  obtain ⟨-, -, -, -, -, -, -, -, ht, -⟩ := hI
  have := ht f h0 h1
  omega
theorem TS_I {Y : Sg} (hI : Inv Y) {w f : Int} (h0 : 0 ≤ f) (h1 : f < 6) {s : Int × (Int → Int)} (hs : TI Y w s) : TI Y w (TS Y w f s) ∧ s.1 ≤ (TS Y w f s).1 := by
  have h := TS_p hI h0 h1 hs
  unfold TS
  refine ⟨⟨by have := hs.1; dsimp only; omega, fun j j0 j1 => ?_⟩, by dsimp only; omega⟩
  have := hs.2 j j0 j1
  dsimp only
  split
  · subst j; omega
  · exact this
theorem TRd_I {Y : Sg} (hI : Inv Y) {w : Int} {s : Int × (Int → Int)} (hs : TI Y w s) : ∀ {k : Nat}, (k : Int) ≤ 6 → TI Y w (TRd Y w k s) ∧ s.1 ≤ (TRd Y w k s).1
  | 0, _ => ⟨hs, Int.le_refl _⟩
  | k + 1, h => by
    have ih := TRd_I hI hs (k := k) (by omega)
    have h2 := TS_I hI (f := (k : Int)) (by omega) (by omega) ih.1
    exact ⟨h2.1, Int.le_trans ih.2 h2.2⟩
theorem TRd_same {Y : Sg} (hI : Inv Y) {w : Int} {s : Int × (Int → Int)} (hs : TI Y w s) : ∀ {k : Nat}, (k : Int) ≤ 6 → (TRd Y w k s).1 = s.1 → TRd Y w k s = s
  | 0, _, _ => rfl
  | k + 1, h, e => by
    have ih := TRd_I hI hs (k := k) (by omega)
    have h2 := TS_I hI (f := (k : Int)) (by omega) (by omega) ih.1
    have e1 : (TRd Y w k s).1 = s.1 := by have e2 : (TS Y w k (TRd Y w k s)).1 = s.1 := e; omega
    have e3 := TRd_same hI hs (k := k) (by omega) e1
    have e4 : (TS Y w k s).1 = s.1 := by
      have e2 : (TS Y w k (TRd Y w k s)).1 = s.1 := e
      rwa [e3] at e2
    show TS Y w k (TRd Y w k s) = s
    rw [e3]
    unfold TS at e4 ⊢
    dsimp only at e4
    have e5 : min (min (Y.2 3 (k : Int)) (WN Y k - s.2 k)) (GV Y k (w - s.1)) = 0 := by omega
    rw [e5]
    refine Prod.ext (by dsimp only; omega) (funext fun j => ?_)
    dsimp only
    split <;> omega
theorem TI_0 {Y : Sg} (hI : Inv Y) {w : Int} (hw : 0 ≤ w) : TI Y w (0, fun _ => 0) := ⟨by dsimp only; omega, fun f h0 h1 => by have := WN_rng hI h0 h1; dsimp only; omega⟩
theorem TR_I {Y : Sg} (hI : Inv Y) {w : Int} (hw : 0 ≤ w) : ∀ n : Nat, TI Y w (TR Y w n)
  | 0 => TI_0 hI hw
  | n + 1 => (TRd_I hI (TR_I hI hw n) (by have := hI.1; omega)).1
theorem TR_fix {Y : Sg} {w : Int} {n : Nat} (h : TR Y w (n + 1) = TR Y w n) : ∀ m : Nat, n ≤ m → TR Y w m = TR Y w n
  | 0, hm => by have : n = 0 := by omega
                rw [this]
  | m + 1, hm => by
    rcases Nat.lt_or_ge n (m + 1) with c | c
    · show TRd Y w (Y.1 0).toNat (TR Y w m) = _
      rw [TR_fix h m (by omega)]
      exact h
    · have : n = m + 1 := by omega
      rw [this]
theorem TR_stop {Y : Sg} (hI : Inv Y) {w : Int} (hw : 0 ≤ w) {n : Nat} (e : (TR Y w (n + 1)).1 = (TR Y w n).1) : TR Y w (n + 1) = TR Y w n :=
  TRd_same hI (TR_I hI hw n) (by have := hI.1; omega) e
/-! a day -/
def DG (Y : Sg) (q w : Int) (g : Int → Int) (t : Int) : Prop := (q = 2 ∧ t = (TR Y w 100).1 ∧ ∀ f : Int, 0 ≤ f → f < Y.1 0 → g f = (TR Y w 100).2 f) ∨ (q ≠ 2 ∧ GO Y q w g t)
theorem DG_uni {Y : Sg} {q w : Int} {g g' : Int → Int} {t t' : Int} (h : DG Y q w g t) (h' : DG Y q w g' t') : t = t' ∧ ∀ f : Int, 0 ≤ f → f < Y.1 0 → g f = g' f := by
  rcases h with ⟨a, b, c⟩ | ⟨a, b⟩ <;> rcases h' with ⟨a', b', c'⟩ | ⟨a', b'⟩
  · exact ⟨by rw [b, b'], fun f h0 h1 => by rw [c f h0 h1, c' f h0 h1]⟩
  · exact absurd a a'
  · exact absurd a' a
  · exact GO_uni b b'
theorem DG_rng {Y : Sg} (hI : Inv Y) {q w : Int} (hw : 0 ≤ w) {g : Int → Int} {t : Int} (h : DG Y q w g t) : (0 ≤ t ∧ t ≤ w) ∧ ∀ f : Int, 0 ≤ f → f < Y.1 0 → 0 ≤ g f ∧ g f ≤ 14 := by
  have h6 := hI.1
  rcases h with ⟨a, b, c⟩ | ⟨a, o, k, h1, h2, h3⟩
  · have := TR_I hI hw 100
    refine ⟨by rw [b]; exact this.1, fun f h0 h1 => ?_⟩
    have h2 := this.2 f h0 (by omega)
    have h3 := WN_rng hI h0 (f := f) (by omega)
    rw [c f h0 h1]; omega
  · refine ⟨by rw [h2]; exact DA_rng hI hw h1.1, fun f f0 f1 => ?_⟩
    obtain ⟨i, hi, rfl⟩ := h1.2.2 f f0 f1
    have d := DA_rng hI hw (q := q) (o := o) (k := i) (fun j hj => h1.1 j (by omega))
    have gv := GV_rng hI f0 (f := o i) (by omega) (w - DA Y q o w i)
    have ws := WS_rng hI q f0 (f := o i) (by omega)
    rw [h3 i hi, DA]; omega
noncomputable def dgt (Y : Sg) (q w : Int) : (Int → Int) × Int := Classical.epsilon (fun p : (Int → Int) × Int => DG Y q w p.1 p.2)
theorem dgt_eq {Y : Sg} {q w : Int} {g : Int → Int} {t : Int} (h : DG Y q w g t) : t = (dgt Y q w).2 ∧ ∀ f : Int, 0 ≤ f → f < Y.1 0 → g f = (dgt Y q w).1 f := by
  have h2 : DG Y q w (dgt Y q w).1 (dgt Y q w).2 := Classical.epsilon_spec (p := fun p : (Int → Int) × Int => DG Y q w p.1 p.2) ⟨(g, t), h⟩
  exact DG_uni h h2
/-- the water behind a day of rain rn that began with w -/
noncomputable def dW (Y : Sg) (q w rn : Int) : Int := (min (w + rn) (Y.1 1) - (dgt Y q (min (w + rn) (Y.1 1))).2) - min (Y.1 6) (max 0 ((min (w + rn) (Y.1 1) - (dgt Y q (min (w + rn) (Y.1 1))).2) - Y.1 5 * Y.1 2))
/-- what a tap gets on such a day -/
noncomputable def dGt (Y : Sg) (q w rn f : Int) : Int := (dgt Y q (min (w + rn) (Y.1 1))).1 f
/-- the water ahead of day k -/
noncomputable def lev (Y : Sg) (q w : Int) (rn : Int → Int) : Nat → Int
  | 0 => w
  | k + 1 => dW Y q (lev Y q w rn k) (rn k)
theorem dW_rng {Y : Sg} (hI : Inv Y) {q w rn : Int} (hw : 0 ≤ w) (hr : 0 ≤ rn) {g : Int → Int} {t : Int} (h : DG Y q (min (w + rn) (Y.1 1)) g t) : 0 ≤ dW Y q w rn ∧ dW Y q w rn ≤ Y.1 1 := by
  have hc := hI.2.1
  have hi5 := hI.2.2.2.2.2.1
  have hm := mul99 hi5 hI.2.2.1
  have hi6 := hI.2.2.2.2.2.2.1
  have r := DG_rng hI (by omega) h
  rw [(dgt_eq h).1] at r
  unfold dW
  omega
end
section
set_option maxHeartbeats 4000000 in
set_option maxRecDepth 100000 in
theorem c_X0_drawnBy {ad : Nat → Nat} {ta sa ca : Int → Nat} {D : va_G} {cI cT cS : ClassId} (st : Sg) (f : Int) (d : Int) (h0 : 0 ≤ f) (h1 : f < 6) (hd : 0 ≤ d ∧ d < 10) : MC (xw ad ta sa ca D cI cT cS) yX0_drawnBy cX0_drawnBy 3 (some .int) { frames := 0, cells := 0, slots := 0, locals := 0 } [.ref (ad 4), .int (iI f), .int (iI d)] st (fun rv u => rv = some (.int (iI (st.2 11 (d * 6 + f)))) ∧ u = st) := by
  refine MC_intro RX0 (by decide) rfl (Nat.le_of_ble_eq_true rfl) ?_
  intro G H0 m hE hR
  refine k_lo [0, 1, 2] (lo' := [(0, .ref (ad 4)), (1, .int (iI f)), (2, .int (iI d))]) rfl ?_
  refine k_aload_n hE dX0_drawnBy_0 0 rfl rfl ?_
  refine x_get_X0_drawn hE fl_X0_18 dX0_drawnBy_1 ?_
  refine k_iload_n hE dX0_drawnBy_4 2 rfl rfl ?_
  refine k_bipush hE dX0_drawnBy_5 rfl ?_
  refine k_imul hE dX0_drawnBy_7 ?_
  refine k_iload_n hE dX0_drawnBy_8 1 rfl rfl ?_
  refine k_iadd hE dX0_drawnBy_9 ?_
  refine x_ld_drawn hE (z := st.2 11 ((d * 6) + f)) (by omega) (by omega) rfl dX0_drawnBy_10 ?_
  exact k_iret hR dX0_drawnBy_11 rfl ⟨rfl, rfl⟩

set_option maxHeartbeats 4000000 in
set_option maxRecDepth 100000 in
theorem c_X0_draw {ad : Nat → Nat} {ta sa ca : Int → Nat} {D : va_G} {cI cT cS : ClassId} (st : Sg) (Y : Sg) (f : Int) (d : Int) (x : Int) (w : Int) (hA : Ag st Y) (hI : Inv Y) (h0 : 0 ≤ f) (h1 : f < 6) (hd : 0 ≤ d ∧ d < 10) (hx : -1000 ≤ x ∧ x ≤ 1000) (hw : -1000 ≤ w ∧ w ≤ 1000) : MC (xw ad ta sa ca D cI cT cS) yX0_draw cX0_draw 6 (some .int) { frames := 1, cells := 0, slots := 0, locals := 23 } [.ref (ad 4), .int (iI f), .int (iI d), .int (iI x), .int (iI w)] st (fun rv u => rv = some (.int (iI (min x (GV Y f w)))) ∧ u = (st.1, ur st.2 11 (d * 6 + f) (st.2 11 (d * 6 + f) + min x (GV Y f w)))) := by
  refine MC_intro RX0 (by decide) rfl (Nat.le_of_ble_eq_true rfl) ?_
  intro G H0 m hE hR
  refine k_lo [0, 1, 2, 3, 4] (lo' := [(0, .ref (ad 4)), (1, .int (iI f)), (2, .int (iI d)), (3, .int (iI x)), (4, .int (iI w))]) rfl ?_
  obtain ⟨hi0, hi1, hi2, hi3, hi4, hi5, hi6, hi7, hit, hir, him, hin⟩ := id hI
  have hg : 0 ≤ GV Y f w ∧ GV Y f w ≤ 1000 := by have h2 := hit f h0 h1; have h3 := mul99 h2.2.1 hi2; unfold GV; omega
  refine k_iload_n hE dX0_draw_0 3 rfl rfl ?_
  refine k_aload_n hE dX0_draw_1 0 rfl rfl ?_
  refine x_get_X0_yard hE fl_X0_24 dX0_draw_2 ?_
  refine k_iload_n hE dX0_draw_5 1 rfl rfl ?_
  refine k_iload hE dX0_draw_6 4 rfl ?_
  refine k_callV hE (c_X5_givesAt st Y f w hA hI (by omega) (by omega) (by omega)) mf_X5_givesAt ml_X0_96 1 rfl rfl rfl rfl ⟨rfl, rfl, Nat.le_of_ble_eq_true rfl, Nat.le_of_ble_eq_true rfl⟩ [.int (iI x)] (Nat.le_of_ble_eq_true rfl) dX0_draw_8 rfl (fun rv u hp => ?_)
  obtain ⟨hv8, hu8⟩ := hp
  refine k_sk (sk' := [.int (iI (GV Y f w)), .int (iI x)]) (by rw [hv8]; rfl) ?_
  refine k_st st hu8 ?_
  refine k_min hE ml_X0_93 dX0_draw_11 (by unfold in32; omega) (by unfold in32; omega) (Nat.le_of_ble_eq_true rfl) (Nat.le_of_ble_eq_true rfl) ?_
  refine k_istore hE dX0_draw_14 [1, 2, 3, 4, 5, 0] (Nat.le_of_ble_eq_true rfl) (lo' := [(0, .ref (ad 4)), (1, .int (iI f)), (2, .int (iI d)), (3, .int (iI x)), (4, .int (iI w)), (5, .int (iI (min x (GV Y f w))))]) rfl ?_
  refine k_aload_n hE dX0_draw_16 0 rfl rfl ?_
  refine x_get_X0_drawn hE fl_X0_18 dX0_draw_17 ?_
  refine k_iload_n hE dX0_draw_20 2 rfl rfl ?_
  refine k_bipush hE dX0_draw_21 rfl ?_
  refine k_imul hE dX0_draw_23 ?_
  refine k_iload_n hE dX0_draw_24 1 rfl rfl ?_
  refine k_iadd hE dX0_draw_25 ?_
  refine k_dup2 hE dX0_draw_26 rfl rfl ?_
  refine x_ld_drawn hE (z := st.2 11 ((d * 6) + f)) (by omega) (by omega) rfl dX0_draw_27 ?_
  refine k_iload hE dX0_draw_28 5 rfl ?_
  refine k_iadd hE dX0_draw_30 ?_
  refine x_st_drawn hE (by omega) (by omega) dX0_draw_31 ?_
  refine k_st ((st.1, ur st.2 11 ((d * 6) + f) ((st.2 11 ((d * 6) + f)) + (min x (GV Y f w))))) rfl ?_
  refine k_iload hE dX0_draw_32 5 rfl ?_
  exact k_iret hR dX0_draw_34 rfl ⟨rfl, rfl⟩

set_option maxHeartbeats 4000000 in
set_option maxRecDepth 100000 in
theorem c_X0_drawInOrder {ad : Nat → Nat} {ta sa ca : Int → Nat} {D : va_G} {cI cT cS : ClassId} (st : Sg) (Y : Sg) (d : Int) (w : Int) (q : Int) (hA : Ag st Y) (hI : Inv Y) (hd : 0 ≤ d ∧ d < 10) (hw : 0 ≤ w ∧ w ≤ 99) (hq : st.1 10 = q) (hq3 : 0 ≤ q ∧ q ≤ 3) (hO : OR Y q (st.2 12) (Y.1 0).toNat) (hz : ∀ f : Int, 0 ≤ f → f < Y.1 0 → st.2 11 (d * 6 + f) = 0) : MC (xw ad ta sa ca D cI cT cS) yX0_drawInOrder cX0_drawInOrder 7 (some .int) { frames := 2, cells := 0, slots := 0, locals := 48 } [.ref (ad 4), .int (iI d), .int (iI w)] st (fun rv u => ∃ t : Int, ∃ S : Sg, rv = some (.int (iI (t))) ∧ u = S ∧ (S.1 = st.1) ∧ (∀ a, a ≠ 11 → S.2 a = st.2 a) ∧ (∀ j : Int, ¬ (d * 6 ≤ j ∧ j < d * 6 + 6) → S.2 11 j = st.2 11 j) ∧ (GO Y q w (fun f => S.2 11 (d * 6 + f)) t)) := by
  refine MC_intro RX0 (by decide) rfl (Nat.le_of_ble_eq_true rfl) ?_
  intro G H0 m hE hR
  refine k_lo [0, 1, 2] (lo' := [(0, .ref (ad 4)), (1, .int (iI d)), (2, .int (iI w))]) rfl ?_
  obtain ⟨hi0, hi1, hi2, hi3, hi4, hi5, hi6, hi7, hit, hir, him, hin⟩ := id hI
  refine k_iconst hE dX0_drawInOrder_0 ?_
  refine k_istore_n hE dX0_drawInOrder_1 [1, 2, 3, 0] rfl (Nat.le_of_ble_eq_true rfl) (lo' := [(0, .ref (ad 4)), (1, .int (iI d)), (2, .int (iI w)), (3, .int (iI 0))]) rfl ?_
  refine k_iconst hE dX0_drawInOrder_2 ?_
  refine k_istore hE dX0_drawInOrder_3 [1, 2, 3, 4, 0] (Nat.le_of_ble_eq_true rfl) (lo' := [(0, .ref (ad 4)), (1, .int (iI d)), (2, .int (iI w)), (3, .int (iI 0)), (4, .int (iI 0))]) rfl ?_
  have L5 : ∀ (fu5 : Nat) (S : Sg) (all : Int) (k : Nat), ((k : Int) ≤ Y.1 0) → (Y.1 0 - k < fu5) → (S.1 = st.1) → (∀ a, a ≠ 11 → S.2 a = st.2 a) → (∀ j : Int, ¬ (d * 6 ≤ j ∧ j < d * 6 + 6) → S.2 11 j = st.2 11 j) → (all = DA Y q (st.2 12) w k) → (∀ i : Nat, i < k → S.2 11 (d * 6 + st.2 12 i) = DA Y q (st.2 12) w (i + 1) - DA Y q (st.2 12) w i) → (∀ f : Int, 0 ≤ f → f < Y.1 0 → (∀ i : Nat, i < k → st.2 12 i ≠ f) → S.2 11 (d * 6 + f) = 0) → KW (xw ad ta sa ca D cI cT cS) G H0 m 7 S 5 [(0, .ref (ad 4)), (1, .int (iI d)), (2, .int (iI w)), (3, .int (iI all)), (4, .int (iI ((k : Int))))] [] := by
    intro fu5
    induction fu5 with
    | zero =>
      intro S all k q0 q1 e1 e2 e3 ea e4 e5
      omega
    | succ fu5 ih5 =>
      intro S all k q0 q1 e1 e2 e3 ea e4 e5
      have hAS : Ag S Y := ⟨fun i hi => by rw [e1]; exact hA.1 i hi, fun a ha => by rw [e2 a (by omega)]; exact hA.2 a ha⟩
      have hd0 := DA_rng hI hw.1 (q := q) (o := st.2 12) (k := k) (fun i hi => hO.1 i (by omega))
      refine k_iload hE dX0_drawInOrder_5 4 rfl ?_
      refine k_aload_n hE dX0_drawInOrder_7 0 rfl rfl ?_
      refine x_get_X0_yard hE fl_X0_24 dX0_drawInOrder_8 ?_
      refine x_get_X5_tapCount hE (z := Y.1 0) (hAS.1 0 (by decide)) fl_X0_32 dX0_drawInOrder_11 ?_
      refine k_icmp_ge hE 83 dX0_drawInOrder_14 (by decide) (by unfold in32; omega) (by unfold in32; omega) (fun c14 => ?_) (fun c14 => ?_)
      · refine k_iload_n hE dX0_drawInOrder_83 3 rfl rfl ?_
        refine k_iret hR dX0_drawInOrder_84 rfl ?_
        have ek : k = (Y.1 0).toNat := by omega
        exact ⟨_, _, rfl, rfl, e1, e2, e3, st.2 12, k, by rw [ek]; exact hO, ea, e4⟩
      · have ok := hO.1 k (by omega)
        have hs := WS_rng hI q ok.1 (f := st.2 12 k) (by omega)
        refine k_aload_n hE dX0_drawInOrder_17 0 rfl rfl ?_
        refine x_get_X0_yard hE fl_X0_24 dX0_drawInOrder_18 ?_
        refine x_get_X5_taps hE fl_X0_41 dX0_drawInOrder_21 ?_
        refine k_aload_n hE dX0_drawInOrder_24 0 rfl rfl ?_
        refine x_get_X0_order hE fl_X0_21 dX0_drawInOrder_25 ?_
        refine k_iload hE dX0_drawInOrder_28 4 rfl ?_
        refine x_ld_order hE (z := st.2 12 (k : Int)) (by omega) (by omega) (congrFun (e2 12 (by decide)) _) dX0_drawInOrder_30 ?_
        refine x_ld_taps hE (i := st.2 12 (k : Int)) (by omega) (by omega) dX0_drawInOrder_31 ?_
        refine k_astore hE dX0_drawInOrder_32 [1, 2, 3, 4, 5, 0] (Nat.le_of_ble_eq_true rfl) (lo' := [(0, .ref (ad 4)), (1, .int (iI d)), (2, .int (iI w)), (3, .int (iI all)), (4, .int (iI ((k : Int)))), (5, .ref (ta (st.2 12 (k : Int))))]) rfl ?_
        have J55 : ∀ (z : Int), (z = WS Y q (st.2 12 k)) → KW (xw ad ta sa ca D cI cT cS) G H0 m 7 S 55 [(0, .ref (ad 4)), (1, .int (iI d)), (2, .int (iI w)), (3, .int (iI all)), (4, .int (iI ((k : Int)))), (5, .ref (ta (st.2 12 (k : Int))))] [.int (iI z)] := by
          intro z hz1
          refine k_istore hE dX0_drawInOrder_55 [1, 2, 3, 4, 5, 6, 0] (Nat.le_of_ble_eq_true rfl) (lo' := [(0, .ref (ad 4)), (1, .int (iI d)), (2, .int (iI w)), (3, .int (iI all)), (4, .int (iI ((k : Int)))), (5, .ref (ta (st.2 12 (k : Int)))), (6, .int (iI z))]) rfl ?_
          refine k_iload_n hE dX0_drawInOrder_57 3 rfl rfl ?_
          refine k_aload_n hE dX0_drawInOrder_58 0 rfl rfl ?_
          refine k_aload_n hE dX0_drawInOrder_59 0 rfl rfl ?_
          refine x_get_X0_order hE fl_X0_21 dX0_drawInOrder_60 ?_
          refine k_iload hE dX0_drawInOrder_63 4 rfl ?_
          refine x_ld_order hE (z := st.2 12 (k : Int)) (by omega) (by omega) (congrFun (e2 12 (by decide)) _) dX0_drawInOrder_65 ?_
          refine k_iload_n hE dX0_drawInOrder_66 1 rfl rfl ?_
          refine k_iload hE dX0_drawInOrder_67 6 rfl ?_
          refine k_iload_n hE dX0_drawInOrder_69 2 rfl rfl ?_
          refine k_iload_n hE dX0_drawInOrder_70 3 rfl rfl ?_
          refine k_isub hE dX0_drawInOrder_71 ?_
          refine k_callV hE (c_X0_draw S Y (st.2 12 (k : Int)) d z (w - all) hAS hI (by omega) (by omega) (by omega) (by omega) (by omega)) mf_X0_draw ml_X0_83 4 rfl rfl rfl rfl ⟨rfl, rfl, Nat.le_of_ble_eq_true rfl, Nat.le_of_ble_eq_true rfl⟩ [.int (iI all)] (Nat.le_of_ble_eq_true rfl) dX0_drawInOrder_72 rfl (fun rv u hp => ?_)
          obtain ⟨hv72, hu72⟩ := hp
          refine k_sk (sk' := [.int (iI (min z (GV Y (st.2 12 (k : Int)) (w - all)))), .int (iI all)]) (by rw [hv72]; rfl) ?_
          refine k_st ((S.1, ur S.2 11 (d * 6 + (st.2 12 (k : Int))) (S.2 11 (d * 6 + (st.2 12 (k : Int))) + min z (GV Y (st.2 12 (k : Int)) (w - all))))) hu72 ?_
          refine k_iadd hE dX0_drawInOrder_75 ?_
          refine k_istore_n hE dX0_drawInOrder_76 [1, 2, 3, 0, 4, 5, 6] rfl (Nat.le_of_ble_eq_true rfl) (lo' := [(0, .ref (ad 4)), (1, .int (iI d)), (2, .int (iI w)), (3, .int (iI (all + (min z (GV Y (st.2 12 (k : Int)) (w - all)))))), (4, .int (iI ((k : Int)))), (5, .ref (ta (st.2 12 (k : Int)))), (6, .int (iI z))]) rfl ?_
          refine k_iinc hE dX0_drawInOrder_77 4 [1, 2, 3, 4, 0, 5, 6] rfl (Nat.le_of_ble_eq_true rfl) (lo' := [(0, .ref (ad 4)), (1, .int (iI d)), (2, .int (iI w)), (3, .int (iI (all + (min z (GV Y (st.2 12 (k : Int)) (w - all)))))), (4, .int (iI (((k : Int)) + 1))), (5, .ref (ta (st.2 12 (k : Int)))), (6, .int (iI z))]) rfl ?_
          refine k_goto hE 5 dX0_drawInOrder_80 (by decide) ?_
          refine k_lo [0, 1, 2, 3, 4] (lo' := [(0, .ref (ad 4)), (1, .int (iI d)), (2, .int (iI w)), (3, .int (iI (all + (min z (GV Y (st.2 12 (k : Int)) (w - all)))))), (4, .int (iI (((k : Int)) + 1)))]) rfl ?_
          have ne : ∀ i : Nat, i < k → st.2 12 i ≠ st.2 12 k := fun i hi e => BF_irr Y q (st.2 12 k) (by have b := hO.2.1 i k hi (by omega); rwa [e] at b)
          have z0 := e5 (st.2 12 k) ok.1 ok.2 ne
          refine ih5 ((S.1, ur S.2 11 (d * 6 + (st.2 12 (k : Int))) (S.2 11 (d * 6 + (st.2 12 (k : Int))) + min z (GV Y (st.2 12 (k : Int)) (w - all))))) _ (k + 1) (by omega) (by omega) e1 (fun a ha => by show ur S.2 11 _ _ a = _; rw [ur_n _ _ _ ha]; exact e2 a ha) (fun j hj => by show ur S.2 11 _ _ 11 j = _; rw [ur_o _ _ _ (by omega)]; exact e3 j hj) (by rw [DA, ← ea, ← hz1]) (fun i hi => ?_) (fun f f0 f1 nf => ?_)
          · show ur S.2 11 _ _ 11 _ = _
            rw [ur_c]
            by_cases e : i = k
            · subst e
              rw [if_pos rfl, z0, DA, ← ea, ← hz1]; omega
            · rw [if_neg (by have := ne i (by omega); omega)]
              exact e4 i (by omega)
          · show ur S.2 11 _ _ 11 _ = _
            rw [ur_o _ _ _ (by have := nf k (by omega); omega)]
            exact e5 f f0 f1 (fun i hi => nf i (by omega))
        refine k_aload_n hE dX0_drawInOrder_34 0 rfl rfl ?_
        refine x_get_X0_rule hE (z := q) (by rw [e1]; exact hq) fl_X0_28 dX0_drawInOrder_35 ?_
        refine k_iconst hE dX0_drawInOrder_38 ?_
        refine k_icmp_ne hE 50 dX0_drawInOrder_39 (by decide) (by unfold in32; omega) (by unfold in32; omega) (fun c39 => ?_) (fun c39 => ?_)
        · refine k_aload hE dX0_drawInOrder_50 5 rfl ?_
          refine k_callV hE (c_X3_wants S Y (st.2 12 (k : Int)) hAS hI (by omega) (by omega)) mf_X3_wants ml_X0_79 (13 + Int.toNat (st.2 12 (k : Int))) (xW_tap (by omega) (by omega)) rfl rfl rfl ⟨rfl, rfl, Nat.le_of_ble_eq_true rfl, Nat.le_of_ble_eq_true rfl⟩ [] (Nat.le_of_ble_eq_true rfl) dX0_drawInOrder_52 rfl (fun rv u hp => ?_)
          obtain ⟨hv52, hu52⟩ := hp
          refine k_sk (sk' := [.int (iI (WN Y (st.2 12 (k : Int))))]) (by rw [hv52]; rfl) ?_
          refine k_st S hu52 ?_
          exact J55 _ (by unfold WS; split <;> omega)
        · refine k_aload hE dX0_drawInOrder_42 5 rfl ?_
          refine x_get_X3_need hE (z := Y.2 2 ((st.2 12 (k : Int)))) (by omega) (by omega) (congrFun (hAS.2 2 (by decide)) ((st.2 12 (k : Int)))) fl_X0_76 dX0_drawInOrder_44 ?_
          refine k_goto hE 55 dX0_drawInOrder_47 (by decide) ?_
          exact J55 _ (by unfold WS; split <;> omega)
  exact L5 7 st 0 0 (by omega) (by omega) rfl (fun a _ => rfl) (fun j _ => rfl) rfl (fun i hi => by omega) (fun f f0 f1 _ => hz f f0 f1)
end
section
/-- sorted and whole, of the first n taps -/
def ORp (Y : Sg) (q : Int) (o : Int → Int) (n : Int) : Prop := (∀ i : Int, 0 ≤ i → i < n → 0 ≤ o i ∧ o i < n) ∧ (∀ i j : Int, 0 ≤ i → i < j → j < n → BF Y q (o i) (o j)) ∧ (∀ g : Int, 0 ≤ g → g < n → ∃ i : Int, 0 ≤ i ∧ i < n ∧ o i = g)
theorem ORp_OR {Y : Sg} {q : Int} {o : Int → Int} (h : ORp Y q o (Y.1 0)) : OR Y q o (Y.1 0).toNat := by
  refine ⟨fun i hi => h.1 i (by omega) (by omega), fun i j hi hj => h.2.1 i j (by omega) (by omega) (by omega), fun f f0 f1 => ?_⟩
  obtain ⟨i, i0, i1, e⟩ := h.2.2 f f0 f1
  exact ⟨i.toNat, by omega, by rw [Int.toNat_of_nonneg i0]; exact e⟩
theorem ORp_ins {Y : Sg} {q : Int} {o o2 : Int → Int} {f p : Int} (h : ORp Y q o f) (hp : 0 ≤ p ∧ p ≤ f) (h1 : ∀ i : Int, 0 ≤ i → i < p → o2 i = o i) (h2 : ∀ i : Int, p ≤ i → i < f → o2 (i + 1) = o i) (h3 : ∀ i : Int, p ≤ i → i < f → BF Y q f (o i)) (h4 : p = 0 ∨ ¬ BF Y q f (o (p - 1))) (h5 : o2 p = f) : ORp Y q o2 (f + 1) := by
  have h2' : ∀ j : Int, p < j → j < f + 1 → o2 j = o (j - 1) := fun j j0 j1 => by
    have e := h2 (j - 1) (by omega) (by omega)
    rwa [show j - 1 + 1 = j by omega] at e
  have hb : ∀ i : Int, 0 ≤ i → i < p → BF Y q (o i) f := fun i i0 i1 => by
    rcases h4 with h4 | h4
    · omega
    · have hr := h.1 (p - 1) (by omega) (by omega)
      have b1 : BF Y q (o (p - 1)) f := by
        rcases BF_tot Y q (a := f) (b := o (p - 1)) (by omega) with b | b
        · exact absurd b h4
        · exact b
      by_cases e : i = p - 1
      · rw [e]; exact b1
      · exact BF_tr (h.2.1 i (p - 1) i0 (by omega) (by omega)) b1
  refine ⟨fun i i0 i1 => ?_, fun i j i0 ij j1 => ?_, fun g g0 g1 => ?_⟩
  · rcases Int.lt_trichotomy i p with c | c | c
    · rw [h1 i i0 c]; have := h.1 i i0 (by omega); omega
    · rw [c, h5]; omega
    · rw [h2' i c i1]; have := h.1 (i - 1) (by omega) (by omega); omega
  · rcases Int.lt_trichotomy j p with c | c | c
    · rw [h1 i i0 (by omega), h1 j (by omega) c]; exact h.2.1 i j i0 ij (by omega)
    · rw [c, h5, h1 i i0 (by omega)]; exact hb i i0 (by omega)
    · rw [h2' j c j1]
      rcases Int.lt_trichotomy i p with d | d | d
      · rw [h1 i i0 d]; exact h.2.1 i (j - 1) i0 (by omega) (by omega)
      · rw [d, h5]; exact h3 (j - 1) (by omega) (by omega)
      · rw [h2' i d (by omega)]; exact h.2.1 (i - 1) (j - 1) (by omega) (by omega) (by omega)
  · by_cases e : g = f
    · exact ⟨p, hp.1, by omega, by rw [h5, e]⟩
    · obtain ⟨i, i0, i1, e2⟩ := h.2.2 g g0 (by omega)
      by_cases c : i < p
      · exact ⟨i, i0, by omega, by rw [h1 i i0 c]; exact e2⟩
      · exact ⟨i + 1, by omega, by omega, by rw [h2 i (by omega) i1]; exact e2⟩
/-- days that have passed: levels, what ran over, what each got, in rows la, oa, ga -/
def Ran (Y : Sg) (q w : Int) (rn : Int → Int) (r : Nat → Int → Int) (n : Nat) (la oa ga : Nat) : Prop :=
  (∀ k : Nat, k ≤ n → r la k = lev Y q w rn k ∧ 0 ≤ lev Y q w rn k ∧ lev Y q w rn k ≤ Y.1 1) ∧ (∀ k : Nat, k < n → r oa k = max 0 (lev Y q w rn k + rn k - Y.1 1)) ∧ (∀ k : Nat, k < n → ∀ f : Int, 0 ≤ f → f < Y.1 0 → r ga ((k : Int) * 6 + f) = dGt Y q (lev Y q w rn k) (rn k) f ∧ 0 ≤ dGt Y q (lev Y q w rn k) (rn k) f ∧ dGt Y q (lev Y q w rn k) (rn k) f ≤ 14)
theorem Ran_0 {Y : Sg} {q w : Int} {rn : Int → Int} {r : Nat → Int → Int} {la oa ga : Nat} (h : r la 0 = w) (hw : 0 ≤ w ∧ w ≤ Y.1 1) : Ran Y q w rn r 0 la oa ga := by
  refine ⟨fun k hk => ?_, fun k hk => by omega, fun k hk => by omega⟩
  have e : k = 0 := by omega
  subst e
  exact ⟨h, hw⟩
theorem Ran_s {Y : Sg} {q w : Int} {rn : Int → Int} {r r2 : Nat → Int → Int} {n : Nat} {la oa ga : Nat} (h : Ran Y q w rn r n la oa ga) (l1 : ∀ j : Int, j ≠ n + 1 → r2 la j = r la j) (l2 : r2 la ((n : Int) + 1) = dW Y q (lev Y q w rn n) (rn n)) (o1 : ∀ j : Int, j ≠ n → r2 oa j = r oa j) (o2 : r2 oa n = max 0 (lev Y q w rn n + rn n - Y.1 1)) (g1 : ∀ j : Int, ¬ ((n : Int) * 6 ≤ j ∧ j < (n : Int) * 6 + 6) → r2 ga j = r ga j) (g2 : ∀ f : Int, 0 ≤ f → f < Y.1 0 → r2 ga ((n : Int) * 6 + f) = dGt Y q (lev Y q w rn n) (rn n) f) (rg : 0 ≤ dW Y q (lev Y q w rn n) (rn n) ∧ dW Y q (lev Y q w rn n) (rn n) ≤ Y.1 1) (gr : ∀ f : Int, 0 ≤ f → f < Y.1 0 → 0 ≤ dGt Y q (lev Y q w rn n) (rn n) f ∧ dGt Y q (lev Y q w rn n) (rn n) f ≤ 14) (h6 : Y.1 0 ≤ 6) : Ran Y q w rn r2 (n + 1) la oa ga := by
  refine ⟨fun k hk => ?_, fun k hk => ?_, fun k hk f f0 f1 => ?_⟩
  · by_cases e : k = n + 1
    · subst e
      exact ⟨l2, rg⟩
    · rw [l1 k (by omega)]; exact h.1 k (by omega)
  · by_cases e : k = n
    · subst e; exact o2
    · rw [o1 k (by omega)]; exact h.2.1 k (by omega)
  · by_cases e : k = n
    · subst e; exact ⟨g2 f f0 f1, gr f f0 f1⟩
    · rw [g1 _ (by omega)]; exact h.2.2 k (by omega) f f0 f1
theorem Ran_le {Y : Sg} {q w : Int} {rn : Int → Int} {r : Nat → Int → Int} {n m : Nat} {la oa ga : Nat} (h : Ran Y q w rn r n la oa ga) (hm : m ≤ n) : Ran Y q w rn r m la oa ga :=
  ⟨fun k hk => h.1 k (by omega), fun k hk => h.2.1 k (by omega), fun k hk => h.2.2 k (by omega)⟩
end
section
set_option maxHeartbeats 4000000 in
set_option maxRecDepth 100000 in
theorem c_X0_drawByTurns {ad : Nat → Nat} {ta sa ca : Int → Nat} {D : va_G} {cI cT cS : ClassId} (st : Sg) (Y : Sg) (d : Int) (w : Int) (hA : Ag st Y) (hI : Inv Y) (hd : 0 ≤ d ∧ d < 10) (hw : 0 ≤ w ∧ w ≤ 99) (hz : ∀ f : Int, 0 ≤ f → f < Y.1 0 → st.2 11 (d * 6 + f) = 0) : MC (xw ad ta sa ca D cI cT cS) yX0_drawByTurns cX0_drawByTurns 10 (some .int) { frames := 2, cells := 0, slots := 0, locals := 48 } [.ref (ad 4), .int (iI d), .int (iI w)] st (fun rv u => ∃ t : Int, ∃ S : Sg, rv = some (.int (iI (t))) ∧ u = S ∧ (S.1 = st.1) ∧ (∀ a, a ≠ 11 → S.2 a = st.2 a) ∧ (∀ j : Int, ¬ (d * 6 ≤ j ∧ j < d * 6 + 6) → S.2 11 j = st.2 11 j) ∧ (t = (TR Y w 100).1) ∧ (∀ f : Int, 0 ≤ f → f < Y.1 0 → S.2 11 (d * 6 + f) = (TR Y w 100).2 f)) := by
  refine MC_intro RX0 (by decide) rfl (Nat.le_of_ble_eq_true rfl) ?_
  intro G H0 m hE hR
  refine k_lo [0, 1, 2] (lo' := [(0, .ref (ad 4)), (1, .int (iI d)), (2, .int (iI w))]) rfl ?_
  obtain ⟨hi0, hi1, hi2, hi3, hi4, hi5, hi6, hi7, hit, hir, him, hin⟩ := id hI
  refine k_iconst hE dX0_drawByTurns_0 ?_
  refine k_istore_n hE dX0_drawByTurns_1 [1, 2, 3, 0] rfl (Nat.le_of_ble_eq_true rfl) (lo' := [(0, .ref (ad 4)), (1, .int (iI d)), (2, .int (iI w)), (3, .int (iI 0))]) rfl ?_
  refine k_iconst hE dX0_drawByTurns_2 ?_
  refine k_istore hE dX0_drawByTurns_3 [1, 2, 3, 4, 0] (Nat.le_of_ble_eq_true rfl) (lo' := [(0, .ref (ad 4)), (1, .int (iI d)), (2, .int (iI w)), (3, .int (iI 0)), (4, .int (iI 1))]) rfl ?_
  refine k_iconst hE dX0_drawByTurns_5 ?_
  refine k_istore hE dX0_drawByTurns_6 [1, 2, 3, 4, 5, 0] (Nat.le_of_ble_eq_true rfl) (lo' := [(0, .ref (ad 4)), (1, .int (iI d)), (2, .int (iI w)), (3, .int (iI 0)), (4, .int (iI 1)), (5, .int (iI 0))]) rfl ?_
  have L8 : ∀ (fu8 : Nat) (S : Sg) (all : Int) (sd : Int) (j : Nat), ((j : Int) ≤ 100) → (100 - (j : Int) < fu8) → (S.1 = st.1) → (∀ a, a ≠ 11 → S.2 a = st.2 a) → (∀ j : Int, ¬ (d * 6 ≤ j ∧ j < d * 6 + 6) → S.2 11 j = st.2 11 j) → (all = (TR Y w j).1) → (∀ f : Int, 0 ≤ f → f < Y.1 0 → S.2 11 (d * 6 + f) = (TR Y w j).2 f) → (sd = 1 ∨ (sd = 0 ∧ TR Y w 100 = TR Y w j)) → KW (xw ad ta sa ca D cI cT cS) G H0 m 10 S 8 [(0, .ref (ad 4)), (1, .int (iI d)), (2, .int (iI w)), (3, .int (iI all)), (4, .int (iI sd)), (5, .int (iI ((j : Int))))] [] := by
    intro fu8
    induction fu8 with
    | zero =>
      intro S all sd j q0 q1 e1 e2 e3 ea eg es
      omega
    | succ fu8 ih8 =>
      intro S all sd j q0 q1 e1 e2 e3 ea eg es
      have hAS : Ag S Y := ⟨fun i hi => by rw [e1]; exact hA.1 i hi, fun a ha => by rw [e2 a (by omega)]; exact hA.2 a ha⟩
      have hT := TR_I hI hw.1 j
      have hT1 := hT.1
      refine k_iload hE dX0_drawByTurns_8 5 rfl ?_
      refine k_bipush hE dX0_drawByTurns_10 rfl ?_
      refine k_icmp_gt hE 113 dX0_drawByTurns_12 (by decide) (by unfold in32; omega) (by unfold in32; omega) (fun c12 => ?_) (fun c12 => ?_)
      · refine k_iload_n hE dX0_drawByTurns_113 3 rfl rfl ?_
        refine k_iret hR dX0_drawByTurns_114 rfl ?_
        have eT : TR Y w 100 = TR Y w j := by
          by_cases h : j = 100
          · rw [h]
          · rcases es with es | es
            · omega
            · exact es.2
        exact ⟨_, _, rfl, rfl, e1, e2, e3, by rw [eT]; exact ea, fun f f0 f1 => by rw [eT]; exact eg f f0 f1⟩
      · refine k_iload hE dX0_drawByTurns_15 4 rfl ?_
        refine k_if_eq hE 113 dX0_drawByTurns_17 (by decide) (by unfold in32; omega) (fun c17 => ?_) (fun c17 => ?_)
        · refine k_iload_n hE dX0_drawByTurns_113 3 rfl rfl ?_
          refine k_iret hR dX0_drawByTurns_114 rfl ?_
          have eT : TR Y w 100 = TR Y w j := by
            by_cases h : j = 100
            · rw [h]
            · rcases es with es | es
              · omega
              · exact es.2
          exact ⟨_, _, rfl, rfl, e1, e2, e3, by rw [eT]; exact ea, fun f f0 f1 => by rw [eT]; exact eg f f0 f1⟩
        · refine k_iload_n hE dX0_drawByTurns_20 3 rfl rfl ?_
          refine k_istore hE dX0_drawByTurns_21 [1, 2, 3, 4, 5, 6, 0] (Nat.le_of_ble_eq_true rfl) (lo' := [(0, .ref (ad 4)), (1, .int (iI d)), (2, .int (iI w)), (3, .int (iI all)), (4, .int (iI sd)), (5, .int (iI ((j : Int)))), (6, .int (iI all))]) rfl ?_
          refine k_iconst hE dX0_drawByTurns_23 ?_
          refine k_istore hE dX0_drawByTurns_24 [1, 2, 3, 4, 5, 6, 7, 0] (Nat.le_of_ble_eq_true rfl) (lo' := [(0, .ref (ad 4)), (1, .int (iI d)), (2, .int (iI w)), (3, .int (iI all)), (4, .int (iI sd)), (5, .int (iI ((j : Int)))), (6, .int (iI all)), (7, .int (iI 0))]) rfl ?_
          have L26 : ∀ (fu26 : Nat) (S2 : Sg) (all2 : Int) (f : Nat), ((f : Int) ≤ Y.1 0) → (Y.1 0 - f < fu26) → (S2.1 = st.1) → (∀ a, a ≠ 11 → S2.2 a = st.2 a) → (∀ j : Int, ¬ (d * 6 ≤ j ∧ j < d * 6 + 6) → S2.2 11 j = st.2 11 j) → (all2 = (TRd Y w f (TR Y w j)).1) → (∀ i : Int, 0 ≤ i → i < Y.1 0 → S2.2 11 (d * 6 + i) = (TRd Y w f (TR Y w j)).2 i) → KW (xw ad ta sa ca D cI cT cS) G H0 m 10 S2 26 [(0, .ref (ad 4)), (1, .int (iI d)), (2, .int (iI w)), (3, .int (iI all2)), (4, .int (iI sd)), (5, .int (iI ((j : Int)))), (6, .int (iI all)), (7, .int (iI ((f : Int))))] [] := by
            intro fu26
            induction fu26 with
            | zero =>
              intro S2 all2 f p0 p1 g1 g2 g3 ga gg
              omega
            | succ fu26 ih26 =>
              intro S2 all2 f p0 p1 g1 g2 g3 ga gg
              have hAS2 : Ag S2 Y := ⟨fun i hi => by rw [g1]; exact hA.1 i hi, fun a ha => by rw [g2 a (by omega)]; exact hA.2 a ha⟩
              have hT2 := (TRd_I hI hT (k := f) (by omega)).1
              have hT3 := hT2.1
              refine k_iload hE dX0_drawByTurns_26 7 rfl ?_
              refine k_aload_n hE dX0_drawByTurns_28 0 rfl rfl ?_
              refine x_get_X0_yard hE fl_X0_24 dX0_drawByTurns_29 ?_
              refine x_get_X5_tapCount hE (z := Y.1 0) (hAS2.1 0 (by decide)) fl_X0_32 dX0_drawByTurns_32 ?_
              refine k_icmp_ge hE 94 dX0_drawByTurns_35 (by decide) (by unfold in32; omega) (by unfold in32; omega) (fun c35 => ?_) (fun c35 => ?_)
              · have ef : f = (Y.1 0).toNat := by omega
                have ga2 : all2 = (TR Y w (j + 1)).1 := by rw [ga, ef]; rfl
                have gg2 : ∀ i : Int, 0 ≤ i → i < Y.1 0 → S2.2 11 (d * 6 + i) = (TR Y w (j + 1)).2 i := fun i i0 i1 => by rw [gg i i0 i1, ef]; rfl
                have mono : (TR Y w j).1 ≤ (TR Y w (j + 1)).1 := (TRd_I hI hT (k := (Y.1 0).toNat) (by omega)).2
                refine k_iload_n hE dX0_drawByTurns_94 3 rfl rfl ?_
                refine k_iload hE dX0_drawByTurns_95 6 rfl ?_
                refine k_icmp_le hE 104 dX0_drawByTurns_97 (by decide) (by unfold in32; omega) (by unfold in32; omega) (fun c97 => ?_) (fun c97 => ?_)
                · refine k_iconst hE dX0_drawByTurns_104 ?_
                  refine k_istore hE dX0_drawByTurns_105 [1, 2, 3, 4, 0, 5, 6, 7] (Nat.le_of_ble_eq_true rfl) (lo' := [(0, .ref (ad 4)), (1, .int (iI d)), (2, .int (iI w)), (3, .int (iI all2)), (4, .int (iI 0)), (5, .int (iI ((j : Int)))), (6, .int (iI all)), (7, .int (iI ((f : Int))))]) rfl ?_
                  refine k_iinc hE dX0_drawByTurns_107 5 [1, 2, 3, 4, 5, 0, 6, 7] rfl (Nat.le_of_ble_eq_true rfl) (lo' := [(0, .ref (ad 4)), (1, .int (iI d)), (2, .int (iI w)), (3, .int (iI all2)), (4, .int (iI 0)), (5, .int (iI (((j : Int)) + 1))), (6, .int (iI all)), (7, .int (iI ((f : Int))))]) rfl ?_
                  refine k_goto hE 8 dX0_drawByTurns_110 (by decide) ?_
                  refine k_lo [0, 1, 2, 3, 4, 5] (lo' := [(0, .ref (ad 4)), (1, .int (iI d)), (2, .int (iI w)), (3, .int (iI all2)), (4, .int (iI 0)), (5, .int (iI (((j : Int)) + 1)))]) rfl ?_
                  refine ih8 S2 _ _ (j + 1) (by omega) (by omega) g1 g2 g3 ga2 gg2 ?_
                  first
                    | exact Or.inl rfl
                    | (refine Or.inr ⟨rfl, ?_⟩
                       have e := TR_stop hI hw.1 (n := j) (by rw [← ga2, ← ea]; omega)
                       rw [TR_fix e 100 (by omega), e])
                · refine k_iconst hE dX0_drawByTurns_100 ?_
                  refine k_goto hE 105 dX0_drawByTurns_101 (by decide) ?_
                  refine k_istore hE dX0_drawByTurns_105 [1, 2, 3, 4, 0, 5, 6, 7] (Nat.le_of_ble_eq_true rfl) (lo' := [(0, .ref (ad 4)), (1, .int (iI d)), (2, .int (iI w)), (3, .int (iI all2)), (4, .int (iI 1)), (5, .int (iI ((j : Int)))), (6, .int (iI all)), (7, .int (iI ((f : Int))))]) rfl ?_
                  refine k_iinc hE dX0_drawByTurns_107 5 [1, 2, 3, 4, 5, 0, 6, 7] rfl (Nat.le_of_ble_eq_true rfl) (lo' := [(0, .ref (ad 4)), (1, .int (iI d)), (2, .int (iI w)), (3, .int (iI all2)), (4, .int (iI 1)), (5, .int (iI (((j : Int)) + 1))), (6, .int (iI all)), (7, .int (iI ((f : Int))))]) rfl ?_
                  refine k_goto hE 8 dX0_drawByTurns_110 (by decide) ?_
                  refine k_lo [0, 1, 2, 3, 4, 5] (lo' := [(0, .ref (ad 4)), (1, .int (iI d)), (2, .int (iI w)), (3, .int (iI all2)), (4, .int (iI 1)), (5, .int (iI (((j : Int)) + 1)))]) rfl ?_
                  refine ih8 S2 _ _ (j + 1) (by omega) (by omega) g1 g2 g3 ga2 gg2 ?_
                  first
                    | exact Or.inl rfl
                    | (refine Or.inr ⟨rfl, ?_⟩
                       have e := TR_stop hI hw.1 (n := j) (by rw [← ga2, ← ea]; omega)
                       rw [TR_fix e 100 (by omega), e])
              · have hgf := gg f (by omega) (by omega)
                have hp := hT2.2 f (by omega) (by omega)
                have hf := hit f (by omega) (by omega)
                have hn := WN_rng hI (f := (f : Int)) (by omega) (by omega)
                refine k_aload_n hE dX0_drawByTurns_38 0 rfl rfl ?_
                refine x_get_X0_yard hE fl_X0_24 dX0_drawByTurns_39 ?_
                refine x_get_X5_taps hE fl_X0_41 dX0_drawByTurns_42 ?_
                refine k_iload hE dX0_drawByTurns_45 7 rfl ?_
                refine x_ld_taps hE (i := (f : Int)) (by omega) (by omega) dX0_drawByTurns_47 ?_
                refine k_astore hE dX0_drawByTurns_48 [1, 2, 3, 4, 5, 6, 7, 8, 0] (Nat.le_of_ble_eq_true rfl) (lo' := [(0, .ref (ad 4)), (1, .int (iI d)), (2, .int (iI w)), (3, .int (iI all2)), (4, .int (iI sd)), (5, .int (iI ((j : Int)))), (6, .int (iI all)), (7, .int (iI ((f : Int)))), (8, .ref (ta ((f : Int))))]) rfl ?_
                refine k_aload hE dX0_drawByTurns_50 8 rfl ?_
                refine x_get_X3_speed hE (z := Y.2 3 (((f : Int)))) (by omega) (by omega) (congrFun (hAS2.2 3 (by decide)) (((f : Int)))) fl_X0_87 dX0_drawByTurns_52 ?_
                refine k_aload hE dX0_drawByTurns_55 8 rfl ?_
                refine k_callV hE (c_X3_wants S2 Y ((f : Int)) hAS2 hI (by omega) (by omega)) mf_X3_wants ml_X0_79 (13 + Int.toNat ((f : Int))) (xW_tap (by omega) (by omega)) rfl rfl rfl ⟨rfl, rfl, Nat.le_of_ble_eq_true rfl, Nat.le_of_ble_eq_true rfl⟩ [.int (iI (Y.2 3 (((f : Int)))))] (Nat.le_of_ble_eq_true rfl) dX0_drawByTurns_57 rfl (fun rv u hp => ?_)
                obtain ⟨hv57, hu57⟩ := hp
                refine k_sk (sk' := [.int (iI (WN Y ((f : Int)))), .int (iI (Y.2 3 (((f : Int)))))]) (by rw [hv57]; rfl) ?_
                refine k_st S2 hu57 ?_
                refine k_aload_n hE dX0_drawByTurns_60 0 rfl rfl ?_
                refine k_iload hE dX0_drawByTurns_61 7 rfl ?_
                refine k_iload_n hE dX0_drawByTurns_63 1 rfl rfl ?_
                refine k_callV hE (c_X0_drawnBy S2 ((f : Int)) d (by omega) (by omega) (by omega)) mf_X0_drawnBy ml_X0_90 4 rfl rfl rfl rfl ⟨rfl, rfl, Nat.le_of_ble_eq_true rfl, Nat.le_of_ble_eq_true rfl⟩ [.int (iI (WN Y ((f : Int)))), .int (iI (Y.2 3 (((f : Int)))))] (Nat.le_of_ble_eq_true rfl) dX0_drawByTurns_64 rfl (fun rv u hp => ?_)
                obtain ⟨hv64, hu64⟩ := hp
                refine k_sk (sk' := [.int (iI (S2.2 11 (d * 6 + ((f : Int))))), .int (iI (WN Y ((f : Int)))), .int (iI (Y.2 3 (((f : Int)))))]) (by rw [hv64]; rfl) ?_
                refine k_st S2 hu64 ?_
                refine k_isub hE dX0_drawByTurns_67 ?_
                refine k_min hE ml_X0_93 dX0_drawByTurns_68 (by unfold in32; omega) (by unfold in32; omega) (Nat.le_of_ble_eq_true rfl) (Nat.le_of_ble_eq_true rfl) ?_
                refine k_istore hE dX0_drawByTurns_71 [1, 2, 3, 4, 5, 6, 7, 8, 9, 0] (Nat.le_of_ble_eq_true rfl) (lo' := [(0, .ref (ad 4)), (1, .int (iI d)), (2, .int (iI w)), (3, .int (iI all2)), (4, .int (iI sd)), (5, .int (iI ((j : Int)))), (6, .int (iI all)), (7, .int (iI ((f : Int)))), (8, .ref (ta ((f : Int)))), (9, .int (iI (min (Y.2 3 (((f : Int)))) ((WN Y ((f : Int))) - (S2.2 11 (d * 6 + ((f : Int))))))))]) rfl ?_
                refine k_iload_n hE dX0_drawByTurns_73 3 rfl rfl ?_
                refine k_aload_n hE dX0_drawByTurns_74 0 rfl rfl ?_
                refine k_iload hE dX0_drawByTurns_75 7 rfl ?_
                refine k_iload_n hE dX0_drawByTurns_77 1 rfl rfl ?_
                refine k_iload hE dX0_drawByTurns_78 9 rfl ?_
                refine k_iload_n hE dX0_drawByTurns_80 2 rfl rfl ?_
                refine k_iload_n hE dX0_drawByTurns_81 3 rfl rfl ?_
                refine k_isub hE dX0_drawByTurns_82 ?_
                refine k_callV hE (c_X0_draw S2 Y ((f : Int)) d (min (Y.2 3 (((f : Int)))) ((WN Y ((f : Int))) - (S2.2 11 (d * 6 + ((f : Int)))))) (w - all2) hAS2 hI (by omega) (by omega) (by omega) (by omega) (by omega)) mf_X0_draw ml_X0_83 4 rfl rfl rfl rfl ⟨rfl, rfl, Nat.le_of_ble_eq_true rfl, Nat.le_of_ble_eq_true rfl⟩ [.int (iI all2)] (Nat.le_of_ble_eq_true rfl) dX0_drawByTurns_83 rfl (fun rv u hp => ?_)
                obtain ⟨hv83, hu83⟩ := hp
                refine k_sk (sk' := [.int (iI (min (min (Y.2 3 (((f : Int)))) ((WN Y ((f : Int))) - (S2.2 11 (d * 6 + ((f : Int)))))) (GV Y ((f : Int)) (w - all2)))), .int (iI all2)]) (by rw [hv83]; rfl) ?_
                refine k_st ((S2.1, ur S2.2 11 (d * 6 + ((f : Int))) (S2.2 11 (d * 6 + ((f : Int))) + min (min (Y.2 3 (((f : Int)))) ((WN Y ((f : Int))) - (S2.2 11 (d * 6 + ((f : Int)))))) (GV Y ((f : Int)) (w - all2))))) hu83 ?_
                refine k_iadd hE dX0_drawByTurns_86 ?_
                refine k_istore_n hE dX0_drawByTurns_87 [1, 2, 3, 0, 4, 5, 6, 7, 8, 9] rfl (Nat.le_of_ble_eq_true rfl) (lo' := [(0, .ref (ad 4)), (1, .int (iI d)), (2, .int (iI w)), (3, .int (iI (all2 + (min (min (Y.2 3 (((f : Int)))) ((WN Y ((f : Int))) - (S2.2 11 (d * 6 + ((f : Int)))))) (GV Y ((f : Int)) (w - all2)))))), (4, .int (iI sd)), (5, .int (iI ((j : Int)))), (6, .int (iI all)), (7, .int (iI ((f : Int)))), (8, .ref (ta ((f : Int)))), (9, .int (iI (min (Y.2 3 (((f : Int)))) ((WN Y ((f : Int))) - (S2.2 11 (d * 6 + ((f : Int))))))))]) rfl ?_
                refine k_iinc hE dX0_drawByTurns_88 7 [1, 2, 3, 4, 5, 6, 7, 0, 8, 9] rfl (Nat.le_of_ble_eq_true rfl) (lo' := [(0, .ref (ad 4)), (1, .int (iI d)), (2, .int (iI w)), (3, .int (iI (all2 + (min (min (Y.2 3 (((f : Int)))) ((WN Y ((f : Int))) - (S2.2 11 (d * 6 + ((f : Int)))))) (GV Y ((f : Int)) (w - all2)))))), (4, .int (iI sd)), (5, .int (iI ((j : Int)))), (6, .int (iI all)), (7, .int (iI (((f : Int)) + 1))), (8, .ref (ta ((f : Int)))), (9, .int (iI (min (Y.2 3 (((f : Int)))) ((WN Y ((f : Int))) - (S2.2 11 (d * 6 + ((f : Int))))))))]) rfl ?_
                refine k_goto hE 26 dX0_drawByTurns_91 (by decide) ?_
                refine k_lo [0, 1, 2, 3, 4, 5, 6, 7] (lo' := [(0, .ref (ad 4)), (1, .int (iI d)), (2, .int (iI w)), (3, .int (iI (all2 + (min (min (Y.2 3 (((f : Int)))) ((WN Y ((f : Int))) - (S2.2 11 (d * 6 + ((f : Int)))))) (GV Y ((f : Int)) (w - all2)))))), (4, .int (iI sd)), (5, .int (iI ((j : Int)))), (6, .int (iI all)), (7, .int (iI (((f : Int)) + 1)))]) rfl ?_
                refine ih26 ((S2.1, ur S2.2 11 (d * 6 + ((f : Int))) (S2.2 11 (d * 6 + ((f : Int))) + min (min (Y.2 3 (((f : Int)))) ((WN Y ((f : Int))) - (S2.2 11 (d * 6 + ((f : Int)))))) (GV Y ((f : Int)) (w - all2))))) _ (f + 1) (by omega) (by omega) g1 (fun a ha => by show ur S2.2 11 _ _ a = _; rw [ur_n _ _ _ ha]; exact g2 a ha) (fun j hj => by show ur S2.2 11 _ _ 11 j = _; rw [ur_o _ _ _ (by omega)]; exact g3 j hj) ?_ (fun i i0 i1 => ?_)
                · show _ = (TS Y w f (TRd Y w f (TR Y w j))).1
                  unfold TS
                  rw [hgf, ga]
                · show ur S2.2 11 _ _ 11 _ = (TS Y w f (TRd Y w f (TR Y w j))).2 i
                  rw [ur_c]
                  unfold TS
                  by_cases e : i = (f : Int)
                  · rw [e, if_pos rfl]
                    dsimp only
                    rw [if_pos rfl, hgf, ga]
                  · rw [if_neg (by omega)]
                    dsimp only
                    rw [if_neg e]
                    exact gg i i0 i1
          exact L26 7 S all 0 (by omega) (by omega) e1 e2 e3 ea eg
  exact L8 102 st 0 1 0 (by omega) (by omega) rfl (fun a _ => rfl) (fun j _ => rfl) rfl (fun f f0 f1 => hz f f0 f1) (Or.inl rfl)

set_option maxHeartbeats 4000000 in
set_option maxRecDepth 100000 in
theorem c_X0_drawsBefore {ad : Nat → Nat} {ta sa ca : Int → Nat} {D : va_G} {cI cT cS : ClassId} (st : Sg) (Y : Sg) (f : Int) (g : Int) (q : Int) (hA : Ag st Y) (hI : Inv Y) (h0 : 0 ≤ f ∧ f < 6) (h1 : 0 ≤ g ∧ g < 6) (hq : st.1 10 = q) (hq3 : 0 ≤ q ∧ q ≤ 3) : MC (xw ad ta sa ca D cI cT cS) yX0_drawsBefore cX0_drawsBefore 5 (some .boolean) { frames := 0, cells := 0, slots := 0, locals := 0 } [.ref (ad 4), .int (iI f), .int (iI g)] st (fun rv u => ∃ z : Int, rv = some (.int (iI (z))) ∧ u = st ∧ ((z = 1 ∧ (KY Y q f < KY Y q g)) ∨ (z = 0 ∧ ¬ (KY Y q f < KY Y q g)))) := by
  refine MC_intro RX0 (by decide) rfl (Nat.le_of_ble_eq_true rfl) ?_
  intro G H0 m hE hR
  refine k_lo [0, 1, 2] (lo' := [(0, .ref (ad 4)), (1, .int (iI f)), (2, .int (iI g))]) rfl ?_
  obtain ⟨hi0, hi1, hi2, hi3, hi4, hi5, hi6, hi7, hit, hir, him, hin⟩ := id hI
  have hf := hit f h0.1 h0.2
  have hg := hit g h1.1 h1.2
  refine k_aload_n hE dX0_drawsBefore_0 0 rfl rfl ?_
  refine x_get_X0_yard hE fl_X0_24 dX0_drawsBefore_1 ?_
  refine x_get_X5_taps hE fl_X0_41 dX0_drawsBefore_4 ?_
  refine k_iload_n hE dX0_drawsBefore_7 1 rfl rfl ?_
  refine x_ld_taps hE (i := f) (by omega) (by omega) dX0_drawsBefore_8 ?_
  refine x_get_X3_height hE (z := Y.2 1 f) (by omega) (by omega) (congrFun (hA.2 1 (by decide)) f) fl_X0_45 dX0_drawsBefore_9 ?_
  refine k_istore_n hE dX0_drawsBefore_12 [1, 2, 3, 0] rfl (Nat.le_of_ble_eq_true rfl) (lo' := [(0, .ref (ad 4)), (1, .int (iI f)), (2, .int (iI g)), (3, .int (iI (Y.2 1 f)))]) rfl ?_
  refine k_aload_n hE dX0_drawsBefore_13 0 rfl rfl ?_
  refine x_get_X0_yard hE fl_X0_24 dX0_drawsBefore_14 ?_
  refine x_get_X5_taps hE fl_X0_41 dX0_drawsBefore_17 ?_
  refine k_iload_n hE dX0_drawsBefore_20 2 rfl rfl ?_
  refine x_ld_taps hE (i := g) (by omega) (by omega) dX0_drawsBefore_21 ?_
  refine x_get_X3_height hE (z := Y.2 1 g) (by omega) (by omega) (congrFun (hA.2 1 (by decide)) g) fl_X0_45 dX0_drawsBefore_22 ?_
  refine k_istore hE dX0_drawsBefore_25 [1, 2, 3, 4, 0] (Nat.le_of_ble_eq_true rfl) (lo' := [(0, .ref (ad 4)), (1, .int (iI f)), (2, .int (iI g)), (3, .int (iI (Y.2 1 f))), (4, .int (iI (Y.2 1 g)))]) rfl ?_
  refine k_aload_n hE dX0_drawsBefore_27 0 rfl rfl ?_
  refine x_get_X0_rule hE (z := q) hq fl_X0_28 dX0_drawsBefore_28 ?_
  refine k_iconst hE dX0_drawsBefore_31 ?_
  refine k_icmp_ne hE 49 dX0_drawsBefore_32 (by decide) (by unfold in32; omega) (by unfold in32; omega) (fun c32 => ?_) (fun c32 => ?_)
  · refine k_iload_n hE dX0_drawsBefore_49 3 rfl rfl ?_
    refine k_iload hE dX0_drawsBefore_50 4 rfl ?_
    refine k_icmp_le hE 59 dX0_drawsBefore_52 (by decide) (by unfold in32; omega) (by unfold in32; omega) (fun c52 => ?_) (fun c52 => ?_)
    · refine k_iconst hE dX0_drawsBefore_59 ?_
      refine k_zret hR dX0_drawsBefore_60 rfl (nar_b (by omega)) ?_
      refine ⟨_, rfl, rfl, ?_⟩
      by_cases e : q = 1
      · unfold KY; rw [if_pos e, if_pos e]; omega
      · unfold KY; rw [if_neg e, if_neg e]; omega
    · refine k_iconst hE dX0_drawsBefore_55 ?_
      refine k_goto hE 60 dX0_drawsBefore_56 (by decide) ?_
      refine k_zret hR dX0_drawsBefore_60 rfl (nar_b (by omega)) ?_
      refine ⟨_, rfl, rfl, ?_⟩
      by_cases e : q = 1
      · unfold KY; rw [if_pos e, if_pos e]; omega
      · unfold KY; rw [if_neg e, if_neg e]; omega
  · refine k_iload_n hE dX0_drawsBefore_35 3 rfl rfl ?_
    refine k_iload hE dX0_drawsBefore_36 4 rfl ?_
    refine k_icmp_ge hE 45 dX0_drawsBefore_38 (by decide) (by unfold in32; omega) (by unfold in32; omega) (fun c38 => ?_) (fun c38 => ?_)
    · refine k_iconst hE dX0_drawsBefore_45 ?_
      refine k_goto hE 60 dX0_drawsBefore_46 (by decide) ?_
      refine k_zret hR dX0_drawsBefore_60 rfl (nar_b (by omega)) ?_
      refine ⟨_, rfl, rfl, ?_⟩
      by_cases e : q = 1
      · unfold KY; rw [if_pos e, if_pos e]; omega
      · unfold KY; rw [if_neg e, if_neg e]; omega
    · refine k_iconst hE dX0_drawsBefore_41 ?_
      refine k_goto hE 60 dX0_drawsBefore_42 (by decide) ?_
      refine k_zret hR dX0_drawsBefore_60 rfl (nar_b (by omega)) ?_
      refine ⟨_, rfl, rfl, ?_⟩
      by_cases e : q = 1
      · unfold KY; rw [if_pos e, if_pos e]; omega
      · unfold KY; rw [if_neg e, if_neg e]; omega

set_option maxHeartbeats 4000000 in
set_option maxRecDepth 100000 in
theorem c_X0_startWith {ad : Nat → Nat} {ta sa ca : Int → Nat} {D : va_G} {cI cT cS : ClassId} (st : Sg) (Y : Sg) (w : Int) (q : Int) (hA : Ag st Y) (hI : Inv Y) (hq3 : 0 ≤ q ∧ q ≤ 3) : MC (xw ad ta sa ca D cI cT cS) yX0_startWith cX0_startWith 5 none { frames := 1, cells := 0, slots := 0, locals := 24 } [.ref (ad 4), .int (iI w), .int (iI q)] st (fun rv u => ∃ S : Sg, rv = none ∧ u = S ∧ (S.1 = uv st.1 10 q) ∧ (∀ a, a ≠ 12 → S.2 a = ur st.2 9 0 w a) ∧ (OR Y q (S.2 12) (Y.1 0).toNat)) := by
  refine MC_intro RX0 (by decide) rfl (Nat.le_of_ble_eq_true rfl) ?_
  intro G H0 m hE hR
  refine k_lo [0, 1, 2] (lo' := [(0, .ref (ad 4)), (1, .int (iI w)), (2, .int (iI q))]) rfl ?_
  obtain ⟨hi0, hi1, hi2, hi3, hi4, hi5, hi6, hi7, hit, hir, him, hin⟩ := id hI
  refine k_aload_n hE dX0_startWith_0 0 rfl rfl ?_
  refine x_get_X0_levels hE fl_X0_9 dX0_startWith_1 ?_
  refine k_iconst hE dX0_startWith_4 ?_
  refine k_iload_n hE dX0_startWith_5 1 rfl rfl ?_
  refine x_st_levels hE (by omega) (by omega) dX0_startWith_6 ?_
  refine k_st ((st.1, ur st.2 9 0 w)) rfl ?_
  refine k_aload_n hE dX0_startWith_7 0 rfl rfl ?_
  refine k_iload_n hE dX0_startWith_8 2 rfl rfl ?_
  refine x_put_X0_rule hE fl_X0_28 dX0_startWith_9 ?_
  refine k_st ((uv st.1 10 q, ur st.2 9 0 w)) rfl ?_
  refine k_iconst hE dX0_startWith_12 ?_
  refine k_istore_n hE dX0_startWith_13 [1, 2, 3, 0] rfl (Nat.le_of_ble_eq_true rfl) (lo' := [(0, .ref (ad 4)), (1, .int (iI w)), (2, .int (iI q)), (3, .int (iI 0))]) rfl ?_
  have L14 : ∀ (fu14 : Nat) (S : Sg) (f : Int), (0 ≤ f ∧ f ≤ Y.1 0) → (Y.1 0 - f < fu14) → (S.1 = uv st.1 10 q) → (∀ a, a ≠ 12 → S.2 a = ur st.2 9 0 w a) → (ORp Y q (S.2 12) f) → KW (xw ad ta sa ca D cI cT cS) G H0 m 5 S 14 [(0, .ref (ad 4)), (1, .int (iI w)), (2, .int (iI q)), (3, .int (iI f))] [] := by
    intro fu14
    induction fu14 with
    | zero =>
      intro S f q0 q1 e1 e2 eo
      omega
    | succ fu14 ih14 =>
      intro S f q0 q1 e1 e2 eo
      have hAS : Ag S Y := ⟨fun i hi => by rw [e1, uv_n _ _ (by omega)]; exact hA.1 i hi, fun a ha => by rw [e2 a (by omega), ur_n _ _ _ (by omega)]; exact hA.2 a ha⟩
      refine k_iload_n hE dX0_startWith_14 3 rfl rfl ?_
      refine k_aload_n hE dX0_startWith_15 0 rfl rfl ?_
      refine x_get_X0_yard hE fl_X0_24 dX0_startWith_16 ?_
      refine x_get_X5_tapCount hE (z := Y.1 0) (hAS.1 0 (by decide)) fl_X0_32 dX0_startWith_19 ?_
      refine k_icmp_ge hE 86 dX0_startWith_22 (by decide) (by unfold in32; omega) (by unfold in32; omega) (fun c22 => ?_) (fun c22 => ?_)
      · refine k_vret hR dX0_startWith_86 rfl ?_
        have ef : f = Y.1 0 := by omega
        exact ⟨_, rfl, rfl, e1, e2, ORp_OR (by rw [← ef]; exact eo)⟩
      · refine k_iload_n hE dX0_startWith_25 3 rfl rfl ?_
        refine k_istore hE dX0_startWith_26 [1, 2, 3, 4, 0] (Nat.le_of_ble_eq_true rfl) (lo' := [(0, .ref (ad 4)), (1, .int (iI w)), (2, .int (iI q)), (3, .int (iI f)), (4, .int (iI f))]) rfl ?_
        have L28 : ∀ (fu28 : Nat) (S2 : Sg) (p : Int), (0 ≤ p ∧ p ≤ f) → (p < fu28) → (S2.1 = uv st.1 10 q) → (∀ a, a ≠ 12 → S2.2 a = ur st.2 9 0 w a) → (∀ i : Int, 0 ≤ i → i < p → S2.2 12 i = S.2 12 i) → (∀ i : Int, p ≤ i → i < f → S2.2 12 (i + 1) = S.2 12 i) → (∀ i : Int, p ≤ i → i < f → BF Y q f (S.2 12 i)) → KW (xw ad ta sa ca D cI cT cS) G H0 m 5 S2 28 [(0, .ref (ad 4)), (1, .int (iI w)), (2, .int (iI q)), (3, .int (iI f)), (4, .int (iI p))] [] := by
          intro fu28
          induction fu28 with
          | zero =>
            intro S2 p p0 p1 g1 g2 h1 h2 h3
            omega
          | succ fu28 ih28 =>
            intro S2 p p0 p1 g1 g2 h1 h2 h3
            have hAS2 : Ag S2 Y := ⟨fun i hi => by rw [g1, uv_n _ _ (by omega)]; exact hA.1 i hi, fun a ha => by rw [g2 a (by omega), ur_n _ _ _ (by omega)]; exact hA.2 a ha⟩
            refine k_iload hE dX0_startWith_28 4 rfl ?_
            refine k_if_le hE 72 dX0_startWith_30 (by decide) (by unfold in32; omega) (fun c30 => ?_) (fun c30 => ?_)
            · refine k_aload_n hE dX0_startWith_72 0 rfl rfl ?_
              refine x_get_X0_order hE fl_X0_21 dX0_startWith_73 ?_
              refine k_iload hE dX0_startWith_76 4 rfl ?_
              refine k_iload_n hE dX0_startWith_78 3 rfl rfl ?_
              refine x_st_order hE (by omega) (by omega) dX0_startWith_79 ?_
              refine k_st ((S2.1, ur S2.2 12 p f)) rfl ?_
              refine k_iinc hE dX0_startWith_80 3 [1, 2, 3, 0, 4] rfl (Nat.le_of_ble_eq_true rfl) (lo' := [(0, .ref (ad 4)), (1, .int (iI w)), (2, .int (iI q)), (3, .int (iI (f + 1))), (4, .int (iI p))]) rfl ?_
              refine k_goto hE 14 dX0_startWith_83 (by decide) ?_
              refine k_lo [0, 1, 2, 3] (lo' := [(0, .ref (ad 4)), (1, .int (iI w)), (2, .int (iI q)), (3, .int (iI (f + 1)))]) rfl ?_
              refine ih14 ((S2.1, ur S2.2 12 p f)) _ (by omega) (by omega) g1 (fun a ha => by show ur S2.2 12 p f a = _; rw [ur_n _ _ _ ha]; exact g2 a ha) ?_
              refine ORp_ins eo p0 (fun i i0 i1 => ?_) (fun i i0 i1 => ?_) h3 ?_ ?_
              · show ur S2.2 12 p f 12 i = _
                rw [ur_o _ _ _ (by omega)]; exact h1 i i0 i1
              · show ur S2.2 12 p f 12 (i + 1) = _
                rw [ur_o _ _ _ (by omega)]; exact h2 i i0 i1
              · first
                  | exact Or.inl (by omega)
                  | (refine Or.inr ?_
                     have hr := eo.1 (p - 1) (by omega) (by omega)
                     unfold BF
                     omega)
              · show ur S2.2 12 p f 12 p = f
                exact ur_s _ _ _ _
            · have hr := eo.1 (p - 1) (by omega) (by omega)
              refine k_aload_n hE dX0_startWith_33 0 rfl rfl ?_
              refine k_iload_n hE dX0_startWith_34 3 rfl rfl ?_
              refine k_aload_n hE dX0_startWith_35 0 rfl rfl ?_
              refine x_get_X0_order hE fl_X0_21 dX0_startWith_36 ?_
              refine k_iload hE dX0_startWith_39 4 rfl ?_
              refine k_iconst hE dX0_startWith_41 ?_
              refine k_isub hE dX0_startWith_42 ?_
              refine x_ld_order hE (z := S.2 12 (p - 1)) (by omega) (by omega) (h1 (p - 1) (by omega) (by omega)) dX0_startWith_43 ?_
              refine k_callV hE (c_X0_drawsBefore S2 Y f (S.2 12 (p - 1)) q hAS2 hI (by omega) (by omega) (by rw [g1]; exact uv_s _ _ _) (by omega)) mf_X0_drawsBefore ml_X0_37 4 rfl rfl rfl rfl ⟨rfl, rfl, Nat.le_of_ble_eq_true rfl, Nat.le_of_ble_eq_true rfl⟩ [] (Nat.le_of_ble_eq_true rfl) dX0_startWith_44 rfl (fun rv u hp => ?_)
              obtain ⟨z1, hv44, hu44, hz_44⟩ := hp
              refine k_sk (sk' := [.int (iI z1)]) (by rw [hv44]; rfl) ?_
              refine k_st S2 hu44 ?_
              refine k_if_eq hE 72 dX0_startWith_47 (by decide) (by unfold in32; omega) (fun c47 => ?_) (fun c47 => ?_)
              · refine k_aload_n hE dX0_startWith_72 0 rfl rfl ?_
                refine x_get_X0_order hE fl_X0_21 dX0_startWith_73 ?_
                refine k_iload hE dX0_startWith_76 4 rfl ?_
                refine k_iload_n hE dX0_startWith_78 3 rfl rfl ?_
                refine x_st_order hE (by omega) (by omega) dX0_startWith_79 ?_
                refine k_st ((S2.1, ur S2.2 12 p f)) rfl ?_
                refine k_iinc hE dX0_startWith_80 3 [1, 2, 3, 0, 4] rfl (Nat.le_of_ble_eq_true rfl) (lo' := [(0, .ref (ad 4)), (1, .int (iI w)), (2, .int (iI q)), (3, .int (iI (f + 1))), (4, .int (iI p))]) rfl ?_
                refine k_goto hE 14 dX0_startWith_83 (by decide) ?_
                refine k_lo [0, 1, 2, 3] (lo' := [(0, .ref (ad 4)), (1, .int (iI w)), (2, .int (iI q)), (3, .int (iI (f + 1)))]) rfl ?_
                refine ih14 ((S2.1, ur S2.2 12 p f)) _ (by omega) (by omega) g1 (fun a ha => by show ur S2.2 12 p f a = _; rw [ur_n _ _ _ ha]; exact g2 a ha) ?_
                refine ORp_ins eo p0 (fun i i0 i1 => ?_) (fun i i0 i1 => ?_) h3 ?_ ?_
                · show ur S2.2 12 p f 12 i = _
                  rw [ur_o _ _ _ (by omega)]; exact h1 i i0 i1
                · show ur S2.2 12 p f 12 (i + 1) = _
                  rw [ur_o _ _ _ (by omega)]; exact h2 i i0 i1
                · first
                    | exact Or.inl (by omega)
                    | (refine Or.inr ?_
                       have hr := eo.1 (p - 1) (by omega) (by omega)
                       unfold BF
                       omega)
                · show ur S2.2 12 p f 12 p = f
                  exact ur_s _ _ _ _
              · refine k_aload_n hE dX0_startWith_50 0 rfl rfl ?_
                refine x_get_X0_order hE fl_X0_21 dX0_startWith_51 ?_
                refine k_iload hE dX0_startWith_54 4 rfl ?_
                refine k_aload_n hE dX0_startWith_56 0 rfl rfl ?_
                refine x_get_X0_order hE fl_X0_21 dX0_startWith_57 ?_
                refine k_iload hE dX0_startWith_60 4 rfl ?_
                refine k_iconst hE dX0_startWith_62 ?_
                refine k_isub hE dX0_startWith_63 ?_
                refine x_ld_order hE (z := S.2 12 (p - 1)) (by omega) (by omega) (h1 (p - 1) (by omega) (by omega)) dX0_startWith_64 ?_
                refine x_st_order hE (by omega) (by omega) dX0_startWith_65 ?_
                refine k_st ((S2.1, ur S2.2 12 p (S.2 12 (p - 1)))) rfl ?_
                refine k_iinc hE dX0_startWith_66 4 [1, 2, 3, 4, 0] rfl (Nat.le_of_ble_eq_true rfl) (lo' := [(0, .ref (ad 4)), (1, .int (iI w)), (2, .int (iI q)), (3, .int (iI f)), (4, .int (iI (p + (-1))))]) rfl ?_
                refine k_goto hE 28 dX0_startWith_69 (by decide) ?_
                refine ih28 ((S2.1, ur S2.2 12 p (S.2 12 (p - 1)))) _ (by omega) (by omega) g1 (fun a ha => by show ur S2.2 12 _ _ a = _; rw [ur_n _ _ _ ha]; exact g2 a ha) (fun i i0 i1 => ?_) (fun i i0 i1 => ?_) (fun i i0 i1 => ?_)
                · show ur S2.2 12 _ _ 12 i = _
                  rw [ur_o _ _ _ (by omega)]; exact h1 i i0 (by omega)
                · show ur S2.2 12 _ _ 12 (i + 1) = _
                  by_cases e : i = p - 1
                  · rw [e, show p - 1 + 1 = p by omega, ur_s]
                  · rw [ur_o _ _ _ (by omega)]; exact h2 i (by omega) i1
                · by_cases e : i = p - 1
                  · have hr := eo.1 (p - 1) (by omega) (by omega)
                    rw [e]; unfold BF; omega
                  · exact h3 i (by omega) i1
        exact L28 7 S f (by omega) (by omega) e1 e2 (fun i _ _ => rfl) (fun i i0 i1 => by omega) (fun i i0 i1 => by omega)
  exact L14 7 ((uv st.1 10 q, ur st.2 9 0 w)) 0 (by omega) (by omega) rfl (fun a _ => rfl) ⟨fun i i0 i1 => by omega, fun i j i0 ij j1 => by omega, fun g g0 g1 => by omega⟩
end
section
/-- the class's scratch: only it differs -/
def XS (st S : Sg) : Prop := (∀ i, i ≠ 10 → S.1 i = st.1 i) ∧ (∀ a, (a < 9 ∨ 12 < a) → S.2 a = st.2 a)
theorem XS.refl (st : Sg) : XS st st := ⟨fun _ _ => rfl, fun _ _ => rfl⟩
theorem XS.trans {a b c : Sg} (h : XS a b) (h2 : XS b c) : XS a c := ⟨fun i hi => (h2.1 i hi).trans (h.1 i hi), fun i hi => (h2.2 i hi).trans (h.2 i hi)⟩
theorem XS.ag {a b Y : Sg} (h : XS a b) (h2 : Ag a Y) : Ag b Y := ⟨fun i hi => (h.1 i (by omega)).trans (h2.1 i hi), fun i hi => (h.2 i (by omega)).trans (h2.2 i hi)⟩
/-- the first dry day, of what was got by days -/
def FD (g : Int → Int) (nd n z : Int) : Prop := (z = -9 ∧ ∀ k : Int, 0 ≤ k → k < n → nd ≤ g k) ∨ (0 ≤ z ∧ z < n ∧ g z < nd ∧ ∀ k : Int, 0 ≤ k → k < z → nd ≤ g k)
theorem FD_uni {g g' : Int → Int} {nd n z z' : Int} (h : FD g nd n z) (h' : FD g' nd n z') (e : ∀ k : Int, 0 ≤ k → k < n → g k = g' k) : z = z' := by
  rcases h with ⟨a, b⟩ | ⟨a0, a1, a2, a3⟩ <;> rcases h' with ⟨c, d⟩ | ⟨c0, c1, c2, c3⟩
  · omega
  · have h1 := b z' c0 c1
    have h2 := e z' c0 c1
    omega
  · have h1 := d z a0 a1
    have h2 := e z a0 a1
    omega
  · rcases Int.lt_trichotomy z z' with t | t | t
    · have h1 := c3 z a0 t
      have h2 := e z a0 a1
      omega
    · exact t
    · have h1 := a3 z' c0 t
      have h2 := e z' c0 c1
      omega
theorem FD_none {g : Int → Int} {nd n z : Int} (h : FD g nd n z) : z = -9 ↔ ∀ k : Int, 0 ≤ k → k < n → nd ≤ g k := by
  rcases h with ⟨a, b⟩ | ⟨a0, a1, a2, a3⟩
  · exact ⟨fun _ => b, fun _ => a⟩
  · exact ⟨fun h => by omega, fun h => by have := h z a0 a1; omega⟩
/-- how many of the first k -/
noncomputable def CT (P : Int → Prop) : Nat → Int
  | 0 => 0
  | k + 1 => CT P k + @ite Int (P k) (Classical.propDecidable _) 1 0
theorem CT_y {P : Int → Prop} {k : Nat} (h : P k) : CT P (k + 1) = CT P k + 1 := by
  rw [CT, if_pos h]
theorem CT_n {P : Int → Prop} {k : Nat} (h : ¬ P k) : CT P (k + 1) = CT P k := by
  rw [CT, if_neg h]; omega
theorem CT_rng (P : Int → Prop) : ∀ k : Nat, 0 ≤ CT P k ∧ CT P k ≤ k
  | 0 => by rw [CT]; omega
  | k + 1 => by
    have ih := CT_rng P k
    by_cases h : P k
    · rw [CT_y h]; omega
    · rw [CT_n h]; omega
theorem CT_cong {P Q : Int → Prop} : ∀ {k : Nat}, (∀ i : Int, 0 ≤ i → i < k → (P i ↔ Q i)) → CT P k = CT Q k
  | 0, _ => rfl
  | k + 1, h => by
    have ih := CT_cong (P := P) (Q := Q) (k := k) (fun i i0 i1 => h i i0 (by omega))
    have hk := h k (by omega) (by omega)
    by_cases hp : P k
    · rw [CT_y hp, CT_y (hk.mp hp), ih]
    · rw [CT_n hp, CT_n (fun q => hp (hk.mpr q)), ih]
theorem CT_all {P : Int → Prop} : ∀ {k : Nat}, CT P k = k ↔ ∀ i : Int, 0 ≤ i → i < k → P i
  | 0 => ⟨fun _ i i0 i1 => by omega, fun _ => rfl⟩
  | k + 1 => by
    have ih := CT_all (P := P) (k := k)
    have r := CT_rng P k
    by_cases hp : P k
    · rw [CT_y hp]
      constructor
      · intro h i i0 i1
        by_cases e : i = k
        · rw [e]; exact hp
        · exact ih.mp (by omega) i i0 (by omega)
      · intro h
        have := ih.mpr (fun i i0 i1 => h i i0 (by omega))
        omega
    · rw [CT_n hp]
      constructor
      · intro h; omega
      · intro h; exact absurd (h k (by omega) (by omega)) hp
/-- got by days, of a run -/
noncomputable def gD (Y : Sg) (q w : Int) (rn : Int → Int) (f k : Int) : Int := dGt Y q (lev Y q w rn k.toNat) (rn k) f
/-- never dry -/
def NV (Y : Sg) (q w : Int) (rn : Int → Int) (n f : Int) : Prop := ∀ k : Int, 0 ≤ k → k < n → Y.2 2 f ≤ gD Y q w rn f k
theorem Ran_gD {Y : Sg} {q w : Int} {rn : Int → Int} {r : Nat → Int → Int} {n : Nat} {la oa ga : Nat} (h : Ran Y q w rn r n la oa ga) {f k : Int} (f0 : 0 ≤ f) (f1 : f < Y.1 0) (k0 : 0 ≤ k) (k1 : k < n) : r ga (k * 6 + f) = gD Y q w rn f k ∧ 0 ≤ gD Y q w rn f k ∧ gD Y q w rn f k ≤ 14 := by
  have e := h.2.2 k.toNat (by omega) f f0 f1
  rw [Int.toNat_of_nonneg k0] at e
  exact e
theorem Ran_lev {Y : Sg} {q w : Int} {rn : Int → Int} {r : Nat → Int → Int} {n : Nat} {la oa ga : Nat} (h : Ran Y q w rn r n la oa ga) {k : Int} (k0 : 0 ≤ k) (k1 : k ≤ n) : r la k = lev Y q w rn k.toNat ∧ 0 ≤ lev Y q w rn k.toNat ∧ lev Y q w rn k.toNat ≤ Y.1 1 := by
  have e := h.1 k.toNat (by omega)
  rw [Int.toNat_of_nonneg k0] at e
  exact e
theorem Ran_over {Y : Sg} {q w : Int} {rn : Int → Int} {r : Nat → Int → Int} {n : Nat} {la oa ga : Nat} (h : Ran Y q w rn r n la oa ga) {k : Int} (k0 : 0 ≤ k) (k1 : k < n) : r oa k = max 0 (lev Y q w rn k.toNat + rn k - Y.1 1) := by
  have e := h.2.1 k.toNat (by omega)
  rw [Int.toNat_of_nonneg k0] at e
  exact e
/-- a sum over days -/
def SM (g : Int → Int) : Nat → Int
  | 0 => 0
  | k + 1 => SM g k + g k
theorem SM_cong {g h : Int → Int} : ∀ {k : Nat}, (∀ i : Int, 0 ≤ i → i < k → g i = h i) → SM g k = SM h k
  | 0, _ => rfl
  | k + 1, e => by rw [SM, SM, SM_cong (fun i i0 i1 => e i i0 (by omega)), e k (by omega) (by omega)]
theorem SM_rng {g : Int → Int} {b : Int} (hb : 0 ≤ b) : ∀ {k : Nat}, (∀ i : Int, 0 ≤ i → i < k → 0 ≤ g i ∧ g i ≤ b) → 0 ≤ SM g k ∧ SM g k ≤ k * b
  | 0, _ => by rw [SM]; omega
  | k + 1, e => by
    have ih := SM_rng hb (g := g) (k := k) (fun i i0 i1 => e i i0 (by omega))
    have h := e k (by omega) (by omega)
    rw [SM, show ((k + 1 : Nat) : Int) * b = (k : Int) * b + b by rw [Int.natCast_add, Int.add_mul]; omega]
    omega
/-- all have what they need on n days that begin with w -/
def CA (Y : Sg) (w n : Int) : Prop := ∀ f : Int, 0 ≤ f → f < Y.1 0 → NV Y 3 w (Y.2 4) n f
end
section
set_option maxHeartbeats 4000000 in
set_option maxRecDepth 100000 in
theorem c_X0_passDay {ad : Nat → Nat} {ta sa ca : Int → Nat} {D : va_G} {cI cT cS : ClassId} (st : Sg) (Y : Sg) (d : Int) (rn : Int) (w : Int) (q : Int) (hA : Ag st Y) (hI : Inv Y) (hd : 0 ≤ d ∧ d < 10) (hr : 0 ≤ rn ∧ rn ≤ 99) (hl : st.2 9 d = w) (hw : 0 ≤ w ∧ w ≤ Y.1 1) (hq : st.1 10 = q) (hq3 : 0 ≤ q ∧ q ≤ 3) (hO : OR Y q (st.2 12) (Y.1 0).toNat) : MC (xw ad ta sa ca D cI cT cS) yX0_passDay cX0_passDay 5 none { frames := 3, cells := 0, slots := 0, locals := 77 } [.ref (ad 4), .int (iI d), .int (iI rn)] st (fun rv u => ∃ S : Sg, rv = none ∧ u = S ∧ (S.1 = st.1) ∧ (∀ a, (a < 9 ∨ 11 < a) → S.2 a = st.2 a) ∧ (∀ j : Int, j ≠ d + 1 → S.2 9 j = st.2 9 j) ∧ (S.2 9 (d + 1) = dW Y q w rn) ∧ (∀ j : Int, j ≠ d → S.2 10 j = st.2 10 j) ∧ (S.2 10 d = max 0 (w + rn - Y.1 1)) ∧ (∀ j : Int, ¬ (d * 6 ≤ j ∧ j < d * 6 + 6) → S.2 11 j = st.2 11 j) ∧ (∀ f : Int, 0 ≤ f → f < Y.1 0 → S.2 11 (d * 6 + f) = dGt Y q w rn f) ∧ (0 ≤ dW Y q w rn ∧ dW Y q w rn ≤ Y.1 1) ∧ (∀ f : Int, 0 ≤ f → f < Y.1 0 → 0 ≤ dGt Y q w rn f ∧ dGt Y q w rn f ≤ 14)) := by
  refine MC_intro RX0 (by decide) rfl (Nat.le_of_ble_eq_true rfl) ?_
  intro G H0 m hE hR
  refine k_lo [0, 1, 2] (lo' := [(0, .ref (ad 4)), (1, .int (iI d)), (2, .int (iI rn))]) rfl ?_
  obtain ⟨hi0, hi1, hi2, hi3, hi4, hi5, hi6, hi7, hit, hir, him, hin⟩ := id hI
  refine k_aload_n hE dX0_passDay_0 0 rfl rfl ?_
  refine x_get_X0_levels hE fl_X0_9 dX0_passDay_1 ?_
  refine k_iload_n hE dX0_passDay_4 1 rfl rfl ?_
  refine x_ld_levels hE (z := w) (by omega) (by omega) hl dX0_passDay_5 ?_
  refine k_iload_n hE dX0_passDay_6 2 rfl rfl ?_
  refine k_iadd hE dX0_passDay_7 ?_
  refine k_istore_n hE dX0_passDay_8 [1, 2, 3, 0] rfl (Nat.le_of_ble_eq_true rfl) (lo' := [(0, .ref (ad 4)), (1, .int (iI d)), (2, .int (iI rn)), (3, .int (iI (w + rn)))]) rfl ?_
  refine k_aload_n hE dX0_passDay_9 0 rfl rfl ?_
  refine x_get_X0_overs hE fl_X0_15 dX0_passDay_10 ?_
  refine k_iload_n hE dX0_passDay_13 1 rfl rfl ?_
  refine k_iconst hE dX0_passDay_14 ?_
  refine k_iload_n hE dX0_passDay_15 3 rfl rfl ?_
  refine k_aload_n hE dX0_passDay_16 0 rfl rfl ?_
  refine x_get_X0_yard hE fl_X0_24 dX0_passDay_17 ?_
  refine x_get_X5_cap hE (z := Y.1 1) (hA.1 1 (by decide)) fl_X0_57 dX0_passDay_20 ?_
  refine k_isub hE dX0_passDay_23 ?_
  refine k_sk (sk' := [.int (iI (w + rn - Y.1 1)), .int (iI 0), .int (iI d), .ref (ad 6)]) (by rw [show (w + rn) - (Y.1 1) = w + rn - Y.1 1 from (by omega)]) ?_
  refine k_max hE ml_X0_60 dX0_passDay_24 (by unfold in32; omega) (by unfold in32; omega) (Nat.le_of_ble_eq_true rfl) (Nat.le_of_ble_eq_true rfl) ?_
  refine x_st_overs hE (by omega) (by omega) dX0_passDay_27 ?_
  refine k_st ((st.1, ur st.2 10 d (max 0 (w + rn - Y.1 1)))) rfl ?_
  refine k_iload_n hE dX0_passDay_28 3 rfl rfl ?_
  refine k_aload_n hE dX0_passDay_29 0 rfl rfl ?_
  refine x_get_X0_overs hE fl_X0_15 dX0_passDay_30 ?_
  refine k_iload_n hE dX0_passDay_33 1 rfl rfl ?_
  refine x_ld_overs hE (z := max 0 (w + rn - Y.1 1)) (by omega) (by omega) (show ur st.2 10 d (max 0 (w + rn - Y.1 1)) 10 d = _ from ur_s _ _ _ _) dX0_passDay_34 ?_
  refine k_isub hE dX0_passDay_35 ?_
  refine k_sk (sk' := [.int (iI (min (w + rn) (Y.1 1)))]) (by rw [show (w + rn) - (max 0 (w + rn - Y.1 1)) = min (w + rn) (Y.1 1) from (by omega)]) ?_
  refine k_istore_n hE dX0_passDay_36 [1, 2, 3, 0] rfl (Nat.le_of_ble_eq_true rfl) (lo' := [(0, .ref (ad 4)), (1, .int (iI d)), (2, .int (iI rn)), (3, .int (iI (min (w + rn) (Y.1 1))))]) rfl ?_
  refine k_iconst hE dX0_passDay_37 ?_
  refine k_istore hE dX0_passDay_38 [1, 2, 3, 4, 0] (Nat.le_of_ble_eq_true rfl) (lo' := [(0, .ref (ad 4)), (1, .int (iI d)), (2, .int (iI rn)), (3, .int (iI (min (w + rn) (Y.1 1)))), (4, .int (iI 0))]) rfl ?_
  have L40 : ∀ (fu40 : Nat) (S : Sg) (f : Int), (0 ≤ f ∧ f ≤ Y.1 0) → (Y.1 0 - f < fu40) → (S.1 = st.1) → (∀ a, a ≠ 10 → a ≠ 11 → S.2 a = st.2 a) → (∀ j : Int, S.2 10 j = ur st.2 10 d (max 0 (w + rn - Y.1 1)) 10 j) → (∀ j : Int, ¬ (d * 6 ≤ j ∧ j < d * 6 + 6) → S.2 11 j = st.2 11 j) → (∀ i : Int, 0 ≤ i → i < f → S.2 11 (d * 6 + i) = 0) → KW (xw ad ta sa ca D cI cT cS) G H0 m 5 S 40 [(0, .ref (ad 4)), (1, .int (iI d)), (2, .int (iI rn)), (3, .int (iI (min (w + rn) (Y.1 1)))), (4, .int (iI f))] [] := by
    intro fu40
    induction fu40 with
    | zero =>
      intro S f q0 q1 f1 f2 f3 f4 fz
      omega
    | succ fu40 ih40 =>
      intro S f q0 q1 f1 f2 f3 f4 fz
      have hAS : Ag S Y := ⟨fun i hi => by rw [f1]; exact hA.1 i hi, fun a ha => by rw [f2 a (by omega) (by omega)]; exact hA.2 a ha⟩
      refine k_iload hE dX0_passDay_40 4 rfl ?_
      refine k_aload_n hE dX0_passDay_42 0 rfl rfl ?_
      refine x_get_X0_yard hE fl_X0_24 dX0_passDay_43 ?_
      refine x_get_X5_tapCount hE (z := Y.1 0) (hAS.1 0 (by decide)) fl_X0_32 dX0_passDay_46 ?_
      refine k_icmp_ge hE 71 dX0_passDay_49 (by decide) (by unfold in32; omega) (by unfold in32; omega) (fun c49 => ?_) (fun c49 => ?_)
      · have J95 : ∀ (S2 : Sg) (t : Int), (S2.1 = st.1) → (∀ a, a ≠ 10 → a ≠ 11 → S2.2 a = st.2 a) → (∀ j : Int, S2.2 10 j = ur st.2 10 d (max 0 (w + rn - Y.1 1)) 10 j) → (∀ j : Int, ¬ (d * 6 ≤ j ∧ j < d * 6 + 6) → S2.2 11 j = st.2 11 j) → (DG Y q (min (w + rn) (Y.1 1)) (fun f => S2.2 11 (d * 6 + f)) t) → KW (xw ad ta sa ca D cI cT cS) G H0 m 5 S2 95 [(0, .ref (ad 4)), (1, .int (iI d)), (2, .int (iI rn)), (3, .int (iI (min (w + rn) (Y.1 1))))] [.int (iI t), .int (iI (min (w + rn) (Y.1 1)))] := by
          intro S2 t k1 k2 k3 k4 k5
          have hAS2 : Ag S2 Y := ⟨fun i hi => by rw [k1]; exact hA.1 i hi, fun a ha => by rw [k2 a (by omega) (by omega)]; exact hA.2 a ha⟩
          have hr2 := DG_rng hI (by omega) k5
          have hm := mul99 hi5 hi2
          have hlk : 0 ≤ min (Y.1 6) (max 0 ((min (w + rn) (Y.1 1) - t) - Y.1 5 * Y.1 2)) := by omega
          refine k_isub hE dX0_passDay_95 ?_
          refine k_istore_n hE dX0_passDay_96 [1, 2, 3, 0] rfl (Nat.le_of_ble_eq_true rfl) (lo' := [(0, .ref (ad 4)), (1, .int (iI d)), (2, .int (iI rn)), (3, .int (iI ((min (w + rn) (Y.1 1)) - t)))]) rfl ?_
          refine k_aload_n hE dX0_passDay_97 0 rfl rfl ?_
          refine x_get_X0_levels hE fl_X0_9 dX0_passDay_98 ?_
          refine k_iload_n hE dX0_passDay_101 1 rfl rfl ?_
          refine k_iconst hE dX0_passDay_102 ?_
          refine k_iadd hE dX0_passDay_103 ?_
          refine k_iload_n hE dX0_passDay_104 3 rfl rfl ?_
          refine k_aload_n hE dX0_passDay_105 0 rfl rfl ?_
          refine x_get_X0_yard hE fl_X0_24 dX0_passDay_106 ?_
          refine k_iload_n hE dX0_passDay_109 3 rfl rfl ?_
          refine k_callV hE (c_X5_leaksOut S2 Y ((min (w + rn) (Y.1 1)) - t) hAS2 hI (by omega)) mf_X5_leaksOut ml_X0_72 1 rfl rfl rfl rfl ⟨rfl, rfl, Nat.le_of_ble_eq_true rfl, Nat.le_of_ble_eq_true rfl⟩ [.int (iI ((min (w + rn) (Y.1 1)) - t)), .int (iI (d + 1)), .ref (ad 5)] (Nat.le_of_ble_eq_true rfl) dX0_passDay_110 rfl (fun rv u hp => ?_)
          obtain ⟨hv110, hu110⟩ := hp
          refine k_sk (sk' := [.int (iI (min (Y.1 6) (max 0 (((min (w + rn) (Y.1 1)) - t) - Y.1 5 * Y.1 2)))), .int (iI ((min (w + rn) (Y.1 1)) - t)), .int (iI (d + 1)), .ref (ad 5)]) (by rw [hv110]; rfl) ?_
          refine k_st S2 hu110 ?_
          refine k_isub hE dX0_passDay_113 ?_
          refine x_st_levels hE (by omega) (by omega) dX0_passDay_114 ?_
          refine k_st ((S2.1, ur S2.2 9 (d + 1) (((min (w + rn) (Y.1 1)) - t) - (min (Y.1 6) (max 0 (((min (w + rn) (Y.1 1)) - t) - Y.1 5 * Y.1 2)))))) rfl ?_
          refine k_vret hR dX0_passDay_115 rfl ?_
          refine ⟨_, rfl, rfl, k1, fun a ha => ?_, fun j hj => ?_, ?_, fun j hj => ?_, ?_, fun j hj => ?_, fun f f0 f1' => ?_, dW_rng hI (by omega) (by omega) k5, fun f f0 f1' => ?_⟩
          · show ur S2.2 9 _ _ a = _
            rw [ur_n _ _ _ (by omega)]; exact k2 a (by omega) (by omega)
          · show ur S2.2 9 _ _ 9 j = _
            rw [ur_o _ _ _ hj, k2 9 (by decide) (by decide)]
          · show ur S2.2 9 _ _ 9 (d + 1) = _
            rw [ur_s]; unfold dW; rw [← (dgt_eq k5).1]
          · show S2.2 10 j = _
            rw [k3 j, ur_o _ _ _ hj]
          · show S2.2 10 d = _
            rw [k3 d, ur_s]
          · show S2.2 11 j = _
            exact k4 j hj
          · show S2.2 11 _ = _
            exact (dgt_eq k5).2 f f0 f1'
          · have e : S2.2 11 (d * 6 + f) = (dgt Y q (min (w + rn) (Y.1 1))).1 f := (dgt_eq k5).2 f f0 f1'
            have r : 0 ≤ S2.2 11 (d * 6 + f) ∧ S2.2 11 (d * 6 + f) ≤ 14 := hr2.2 f f0 f1'
            unfold dGt; omega
        refine k_iload_n hE dX0_passDay_71 3 rfl rfl ?_
        refine k_aload_n hE dX0_passDay_72 0 rfl rfl ?_
        refine x_get_X0_rule hE (z := q) (by rw [f1]; exact hq) fl_X0_28 dX0_passDay_73 ?_
        refine k_iconst hE dX0_passDay_76 ?_
        refine k_icmp_ne hE 89 dX0_passDay_77 (by decide) (by unfold in32; omega) (by unfold in32; omega) (fun c77 => ?_) (fun c77 => ?_)
        · refine k_aload_n hE dX0_passDay_89 0 rfl rfl ?_
          refine k_iload_n hE dX0_passDay_90 1 rfl rfl ?_
          refine k_iload_n hE dX0_passDay_91 3 rfl rfl ?_
          refine k_callV hE (c_X0_drawInOrder S Y d (min (w + rn) (Y.1 1)) q hAS hI (by omega) (by omega) (by rw [f1]; exact hq) (by omega) (by rw [f2 12 (by decide) (by decide)]; exact hO) (fun i i0 i1 => fz i i0 (by omega))) mf_X0_drawInOrder ml_X0_69 4 rfl rfl rfl rfl ⟨rfl, rfl, Nat.le_of_ble_eq_true rfl, Nat.le_of_ble_eq_true rfl⟩ [.int (iI (min (w + rn) (Y.1 1)))] (Nat.le_of_ble_eq_true rfl) dX0_passDay_92 rfl (fun rv u hp => ?_)
          obtain ⟨t1, S2, hv92, hu92, n1, n2, n3, n4⟩ := hp
          refine k_sk (sk' := [.int (iI t1), .int (iI (min (w + rn) (Y.1 1)))]) (by rw [hv92]; rfl) ?_
          refine k_st S2 hu92 ?_
          have n6 : DG Y q (min (w + rn) (Y.1 1)) (fun f => S2.2 11 (d * 6 + f)) t1 := Or.inr ⟨c77, n4⟩
          refine k_lo [0, 1, 2, 3] (lo' := [(0, .ref (ad 4)), (1, .int (iI d)), (2, .int (iI rn)), (3, .int (iI (min (w + rn) (Y.1 1))))]) rfl ?_
          exact J95 S2 t1 (n1.trans f1) (fun a h1 h2 => (n2 a h2).trans (f2 a h1 h2)) (fun j => by rw [n2 10 (by decide)]; exact f3 j) (fun j hj => (n3 j hj).trans (f4 j hj)) n6
        · refine k_aload_n hE dX0_passDay_80 0 rfl rfl ?_
          refine k_iload_n hE dX0_passDay_81 1 rfl rfl ?_
          refine k_iload_n hE dX0_passDay_82 3 rfl rfl ?_
          refine k_callV hE (c_X0_drawByTurns S Y d (min (w + rn) (Y.1 1)) hAS hI (by omega) (by omega) (fun i i0 i1 => fz i i0 (by omega))) mf_X0_drawByTurns ml_X0_66 4 rfl rfl rfl rfl ⟨rfl, rfl, Nat.le_of_ble_eq_true rfl, Nat.le_of_ble_eq_true rfl⟩ [.int (iI (min (w + rn) (Y.1 1)))] (Nat.le_of_ble_eq_true rfl) dX0_passDay_83 rfl (fun rv u hp => ?_)
          obtain ⟨t3, S4, hv83, hu83, n1, n2, n3, n4, n5⟩ := hp
          refine k_sk (sk' := [.int (iI t3), .int (iI (min (w + rn) (Y.1 1)))]) (by rw [hv83]; rfl) ?_
          refine k_st S4 hu83 ?_
          have n6 : DG Y q (min (w + rn) (Y.1 1)) (fun f => S4.2 11 (d * 6 + f)) t3 := Or.inl ⟨c77, n4, n5⟩
          refine k_goto hE 95 dX0_passDay_86 (by decide) ?_
          refine k_lo [0, 1, 2, 3] (lo' := [(0, .ref (ad 4)), (1, .int (iI d)), (2, .int (iI rn)), (3, .int (iI (min (w + rn) (Y.1 1))))]) rfl ?_
          exact J95 S4 t3 (n1.trans f1) (fun a h1 h2 => (n2 a h2).trans (f2 a h1 h2)) (fun j => by rw [n2 10 (by decide)]; exact f3 j) (fun j hj => (n3 j hj).trans (f4 j hj)) n6
      · refine k_aload_n hE dX0_passDay_52 0 rfl rfl ?_
        refine x_get_X0_drawn hE fl_X0_18 dX0_passDay_53 ?_
        refine k_iload_n hE dX0_passDay_56 1 rfl rfl ?_
        refine k_bipush hE dX0_passDay_57 rfl ?_
        refine k_imul hE dX0_passDay_59 ?_
        refine k_iload hE dX0_passDay_60 4 rfl ?_
        refine k_iadd hE dX0_passDay_62 ?_
        refine k_iconst hE dX0_passDay_63 ?_
        refine x_st_drawn hE (by omega) (by omega) dX0_passDay_64 ?_
        refine k_st ((S.1, ur S.2 11 ((d * 6) + f) 0)) rfl ?_
        refine k_iinc hE dX0_passDay_65 4 [1, 2, 3, 4, 0] rfl (Nat.le_of_ble_eq_true rfl) (lo' := [(0, .ref (ad 4)), (1, .int (iI d)), (2, .int (iI rn)), (3, .int (iI (min (w + rn) (Y.1 1)))), (4, .int (iI (f + 1)))]) rfl ?_
        refine k_goto hE 40 dX0_passDay_68 (by decide) ?_
        refine ih40 ((S.1, ur S.2 11 ((d * 6) + f) 0)) _ (by omega) (by omega) f1 (fun a h1 h2 => by show ur S.2 11 _ _ a = _; rw [ur_n _ _ _ h2]; exact f2 a h1 h2) (fun j => f3 j) (fun j hj => by show ur S.2 11 _ _ 11 j = _; rw [ur_o _ _ _ (by omega)]; exact f4 j hj) (fun i i0 i1 => ?_)
        show ur S.2 11 _ _ 11 _ = 0
        rw [ur_c]
        by_cases e : i = f
        · rw [e, if_pos rfl]
        · rw [if_neg (by omega)]; exact fz i i0 (by omega)
  exact L40 7 ((st.1, ur st.2 10 d (max 0 (w + rn - Y.1 1)))) 0 (by omega) (by omega) rfl (fun a h1 h2 => ur_n _ _ _ h1) (fun j => rfl) (fun j _ => rfl) (fun i i0 i1 => by omega)

set_option maxHeartbeats 4000000 in
set_option maxRecDepth 100000 in
theorem c_X0_passDays {ad : Nat → Nat} {ta sa ca : Int → Nat} {D : va_G} {cI cT cS : ClassId} (st : Sg) (Y : Sg) (a : Int) (n : Int) (w : Int) (q : Int) (hA : Ag st Y) (hI : Inv Y) (ha : a = 0) (hn : 0 ≤ n ∧ n ≤ 10) (hl : st.2 9 0 = w) (hw : 0 ≤ w ∧ w ≤ Y.1 1) (hq : st.1 10 = q) (hq3 : 0 ≤ q ∧ q ≤ 3) (hO : OR Y q (st.2 12) (Y.1 0).toNat) : MC (xw ad ta sa ca D cI cT cS) yX0_passDays cX0_passDays 4 none { frames := 4, cells := 0, slots := 0, locals := 101 } [.ref (ad 4), .int (iI a), .int (iI n)] st (fun rv u => ∃ S : Sg, rv = none ∧ u = S ∧ (S.1 = st.1) ∧ (∀ a, (a < 9 ∨ 11 < a) → S.2 a = st.2 a) ∧ (Ran Y q w (Y.2 4) S.2 n.toNat 9 10 11)) := by
  refine MC_intro RX0 (by decide) rfl (Nat.le_of_ble_eq_true rfl) ?_
  intro G H0 m hE hR
  refine k_lo [0, 1, 2] (lo' := [(0, .ref (ad 4)), (1, .int (iI a)), (2, .int (iI n))]) rfl ?_
  obtain ⟨hi0, hi1, hi2, hi3, hi4, hi5, hi6, hi7, hit, hir, him, hin⟩ := id hI
  refine k_iload_n hE dX0_passDays_0 1 rfl rfl ?_
  refine k_sk (sk' := [.int (iI (((0 : Nat) : Int)))]) (by rw [show a = ((0 : Nat) : Int) from ha]) ?_
  refine k_istore_n hE dX0_passDays_1 [1, 2, 3, 0] rfl (Nat.le_of_ble_eq_true rfl) (lo' := [(0, .ref (ad 4)), (1, .int (iI a)), (2, .int (iI n)), (3, .int (iI (((0 : Nat) : Int))))]) rfl ?_
  have L2 : ∀ (fu2 : Nat) (S : Sg) (k : Nat), ((k : Int) ≤ n) → (n - k < fu2) → (S.1 = st.1) → (∀ a, (a < 9 ∨ 11 < a) → S.2 a = st.2 a) → (Ran Y q w (Y.2 4) S.2 k 9 10 11) → KW (xw ad ta sa ca D cI cT cS) G H0 m 4 S 2 [(0, .ref (ad 4)), (1, .int (iI a)), (2, .int (iI n)), (3, .int (iI ((k : Int))))] [] := by
    intro fu2
    induction fu2 with
    | zero =>
      intro S k q0 q1 e1 e2 er
      omega
    | succ fu2 ih2 =>
      intro S k q0 q1 e1 e2 er
      have hAS : Ag S Y := ⟨fun i hi => by rw [e1]; exact hA.1 i hi, fun a ha => by rw [e2 a (by omega)]; exact hA.2 a ha⟩
      refine k_iload_n hE dX0_passDays_2 3 rfl rfl ?_
      refine k_iload_n hE dX0_passDays_3 2 rfl rfl ?_
      refine k_icmp_ge hE 27 dX0_passDays_4 (by decide) (by unfold in32; omega) (by unfold in32; omega) (fun c4 => ?_) (fun c4 => ?_)
      · refine k_vret hR dX0_passDays_27 rfl ?_
        have ek : n.toNat = k := by omega
        exact ⟨_, rfl, rfl, e1, e2, by rw [ek]; exact er⟩
      · refine k_aload_n hE dX0_passDays_7 0 rfl rfl ?_
        refine k_iload_n hE dX0_passDays_8 3 rfl rfl ?_
        refine k_aload_n hE dX0_passDays_9 0 rfl rfl ?_
        refine x_get_X0_yard hE fl_X0_24 dX0_passDays_10 ?_
        refine x_get_X5_rainOn hE fl_X0_50 dX0_passDays_13 ?_
        refine k_iload_n hE dX0_passDays_16 3 rfl rfl ?_
        refine x_ld_rainOn hE (z := Y.2 4 ((k : Int))) (by omega) (by omega) (congrFun (hAS.2 4 (by decide)) ((k : Int))) dX0_passDays_17 ?_
        refine k_callV hE (c_X0_passDay S Y ((k : Int)) (Y.2 4 ((k : Int))) (lev Y q w (Y.2 4) k) q hAS hI (by omega) (hir k (by omega) (by omega)) (er.1 k (Nat.le_refl k)).1 (er.1 k (Nat.le_refl k)).2 (by rw [e1]; exact hq) (by omega) (by rw [e2 12 (by decide)]; exact hO)) mf_X0_passDay ml_X0_53 4 rfl rfl rfl rfl ⟨rfl, rfl, Nat.le_of_ble_eq_true rfl, Nat.le_of_ble_eq_true rfl⟩ [] (Nat.le_of_ble_eq_true rfl) dX0_passDays_18 rfl (fun rv u hp => ?_)
        obtain ⟨S1, hv18, hu18, e1_18, e2_18, l1_18, l2_18, o1_18, o2_18, g1_18, g2_18, rg_18, gr_18⟩ := hp
        refine k_sk (sk' := []) (by rw [hv18]; rfl) ?_
        refine k_st S1 hu18 ?_
        refine k_iinc hE dX0_passDays_21 3 [1, 2, 3, 0] rfl (Nat.le_of_ble_eq_true rfl) (lo' := [(0, .ref (ad 4)), (1, .int (iI a)), (2, .int (iI n)), (3, .int (iI (((k : Int)) + 1)))]) rfl ?_
        refine k_goto hE 2 dX0_passDays_24 (by decide) ?_
        exact ih2 S1 (k + 1) (by omega) (by omega) (e1_18.trans e1) (fun a ha => (e2_18 a ha).trans (e2 a ha)) (Ran_s er l1_18 l2_18 o1_18 o2_18 g1_18 g2_18 rg_18 gr_18 hi0.2)
  exact L2 11 st 0 (by omega) (by omega) rfl (fun a _ => rfl) (Ran_0 hl hw)
end
section
set_option maxHeartbeats 4000000 in
set_option maxRecDepth 100000 in
theorem c_X6_passAsTold {ad : Nat → Nat} {ta sa ca : Int → Nat} {D : va_G} {cI cT cS : ClassId} (st : Sg) (Y : Sg) (n : Int) (hA : Ag st Y) (hI : Inv Y) (hn : 0 ≤ n ∧ n ≤ 10) : MC (xw ad ta sa ca D cI cT cS) yX6_passAsTold cX6_passAsTold 2 none { frames := 5, cells := 0, slots := 0, locals := 124 } [.ref (ad 0), .int (iI n)] st (fun rv u => ∃ S : Sg, rv = none ∧ u = S ∧ (XS st S) ∧ (S.1 10 = Y.1 4) ∧ (OR Y (Y.1 4) (S.2 12) (Y.1 0).toNat) ∧ (Ran Y (Y.1 4) (Y.1 3) (Y.2 4) S.2 n.toNat 9 10 11)) := by
  refine MC_intro RX6 (by decide) rfl (Nat.le_of_ble_eq_true rfl) ?_
  intro G H0 m hE hR
  refine k_lo [0, 1] (lo' := [(0, .ref (ad 0)), (1, .int (iI n))]) rfl ?_
  obtain ⟨hi0, hi1, hi2, hi3, hi4, hi5, hi6, hi7, hit, hir, him, hin⟩ := id hI
  refine k_aload_n hE dX6_passAsTold_0 0 rfl rfl ?_
  refine x_get_X6_days hE fl_X6_23 dX6_passAsTold_1 ?_
  refine k_aload_n hE dX6_passAsTold_4 0 rfl rfl ?_
  refine x_get_X6_yard hE fl_X6_12 dX6_passAsTold_5 ?_
  refine x_get_X5_firstWater hE (z := Y.1 3) (hA.1 3 (by decide)) fl_X6_115 dX6_passAsTold_8 ?_
  refine k_aload_n hE dX6_passAsTold_11 0 rfl rfl ?_
  refine x_get_X6_yard hE fl_X6_12 dX6_passAsTold_12 ?_
  refine x_get_X5_rule hE (z := Y.1 4) (hA.1 4 (by decide)) fl_X6_125 dX6_passAsTold_15 ?_
  refine k_callV hE (c_X0_startWith st Y (Y.1 3) (Y.1 4) hA hI (by omega)) mf_X0_startWith ml_X6_157 4 rfl rfl rfl rfl ⟨rfl, rfl, Nat.le_of_ble_eq_true rfl, Nat.le_of_ble_eq_true rfl⟩ [] (Nat.le_of_ble_eq_true rfl) dX6_passAsTold_18 rfl (fun rv u hp => ?_)
  obtain ⟨S1, hv18, hu18, e1_18, e2_18, e3_18⟩ := hp
  refine k_sk (sk' := []) (by rw [hv18]; rfl) ?_
  refine k_st S1 hu18 ?_
  have hB : Ag S1 Y := ⟨fun i hi => by rw [e1_18, uv_n _ _ (by omega)]; exact hA.1 i hi, fun a ha => by rw [e2_18 a (by omega), ur_n _ _ _ (by omega)]; exact hA.2 a ha⟩
  refine k_aload_n hE dX6_passAsTold_21 0 rfl rfl ?_
  refine x_get_X6_days hE fl_X6_23 dX6_passAsTold_22 ?_
  refine k_iconst hE dX6_passAsTold_25 ?_
  refine k_iload_n hE dX6_passAsTold_26 1 rfl rfl ?_
  refine k_callV hE (c_X0_passDays S1 Y 0 n (Y.1 3) (Y.1 4) hB hI (by omega) (by omega) (by rw [e2_18 9 (by decide)]; exact ur_s _ _ _ _) hi3 (by rw [e1_18]; exact uv_s _ _ _) (by omega) e3_18) mf_X0_passDays ml_X6_161 4 rfl rfl rfl rfl ⟨rfl, rfl, Nat.le_of_ble_eq_true rfl, Nat.le_of_ble_eq_true rfl⟩ [] (Nat.le_of_ble_eq_true rfl) dX6_passAsTold_27 rfl (fun rv u hp => ?_)
  obtain ⟨S2, hv27, hu27, e1_27, e2_27, er_27⟩ := hp
  refine k_sk (sk' := []) (by rw [hv27]; rfl) ?_
  refine k_st S2 hu27 ?_
  refine k_vret hR dX6_passAsTold_30 rfl ?_
  refine ⟨S2, rfl, rfl, ⟨fun i hi => ?_, fun a ha => ?_⟩, ?_, ?_, er_27⟩
  · rw [e1_27, e1_18, uv_n _ _ hi]
  · rw [e2_27 a (by omega), e2_18 a (by omega), ur_n _ _ _ (by omega)]
  · rw [e1_27, e1_18, uv_s]
  · rw [e2_27 12 (by decide)]; exact e3_18

set_option maxHeartbeats 4000000 in
set_option maxRecDepth 100000 in
theorem c_X0_isDry {ad : Nat → Nat} {ta sa ca : Int → Nat} {D : va_G} {cI cT cS : ClassId} (st : Sg) (Y : Sg) (f : Int) (d : Int) (hA : Ag st Y) (hI : Inv Y) (h0 : 0 ≤ f) (h1 : f < 6) (hd : 0 ≤ d ∧ d < 10) (hg : -1000 ≤ st.2 11 (d * 6 + f) ∧ st.2 11 (d * 6 + f) ≤ 1000) : MC (xw ad ta sa ca D cI cT cS) yX0_isDry cX0_isDry 3 (some .boolean) { frames := 1, cells := 0, slots := 0, locals := 22 } [.ref (ad 4), .int (iI f), .int (iI d)] st (fun rv u => ∃ z : Int, rv = some (.int (iI (z))) ∧ u = st ∧ ((z = 1 ∧ (st.2 11 (d * 6 + f) < Y.2 2 f)) ∨ (z = 0 ∧ ¬ (st.2 11 (d * 6 + f) < Y.2 2 f)))) := by
  refine MC_intro RX0 (by decide) rfl (Nat.le_of_ble_eq_true rfl) ?_
  intro G H0 m hE hR
  refine k_lo [0, 1, 2] (lo' := [(0, .ref (ad 4)), (1, .int (iI f)), (2, .int (iI d))]) rfl ?_
  obtain ⟨hi0, hi1, hi2, hi3, hi4, hi5, hi6, hi7, hit, hir, him, hin⟩ := id hI
  have hf := hit f h0 h1
  refine k_aload_n hE dX0_isDry_0 0 rfl rfl ?_
  refine k_iload_n hE dX0_isDry_1 1 rfl rfl ?_
  refine k_iload_n hE dX0_isDry_2 2 rfl rfl ?_
  refine k_callV hE (c_X0_drawnBy st f d (by omega) (by omega) (by omega)) mf_X0_drawnBy ml_X0_90 4 rfl rfl rfl rfl ⟨rfl, rfl, Nat.le_of_ble_eq_true rfl, Nat.le_of_ble_eq_true rfl⟩ [] (Nat.le_of_ble_eq_true rfl) dX0_isDry_3 rfl (fun rv u hp => ?_)
  obtain ⟨hv3, hu3⟩ := hp
  refine k_sk (sk' := [.int (iI (st.2 11 (d * 6 + f)))]) (by rw [hv3]; rfl) ?_
  refine k_st st hu3 ?_
  refine k_aload_n hE dX0_isDry_6 0 rfl rfl ?_
  refine x_get_X0_yard hE fl_X0_24 dX0_isDry_7 ?_
  refine x_get_X5_taps hE fl_X0_41 dX0_isDry_10 ?_
  refine k_iload_n hE dX0_isDry_13 1 rfl rfl ?_
  refine x_ld_taps hE (i := f) (by omega) (by omega) dX0_isDry_14 ?_
  refine x_get_X3_need hE (z := Y.2 2 f) (by omega) (by omega) (congrFun (hA.2 2 (by decide)) f) fl_X0_76 dX0_isDry_15 ?_
  refine k_icmp_ge hE 25 dX0_isDry_18 (by decide) (by unfold in32; omega) (by unfold in32; omega) (fun c18 => ?_) (fun c18 => ?_)
  · refine k_iconst hE dX0_isDry_25 ?_
    exact k_zret hR dX0_isDry_26 rfl (nar_b (by omega)) ⟨_, rfl, rfl, by omega⟩
  · refine k_iconst hE dX0_isDry_21 ?_
    refine k_goto hE 26 dX0_isDry_22 (by decide) ?_
    exact k_zret hR dX0_isDry_26 rfl (nar_b (by omega)) ⟨_, rfl, rfl, by omega⟩

set_option maxHeartbeats 4000000 in
set_option maxRecDepth 100000 in
theorem c_X0_firstDry {ad : Nat → Nat} {ta sa ca : Int → Nat} {D : va_G} {cI cT cS : ClassId} (st : Sg) (Y : Sg) (f : Int) (n : Int) (hA : Ag st Y) (hI : Inv Y) (h0 : 0 ≤ f) (h1 : f < 6) (hn : 0 ≤ n ∧ n ≤ 10) (hg : ∀ k : Int, 0 ≤ k → k < n → -1000 ≤ st.2 11 (k * 6 + f) ∧ st.2 11 (k * 6 + f) ≤ 1000) : MC (xw ad ta sa ca D cI cT cS) yX0_firstDry cX0_firstDry 4 (some .int) { frames := 2, cells := 0, slots := 0, locals := 44 } [.ref (ad 4), .int (iI f), .int (iI n)] st (fun rv u => ∃ z : Int, rv = some (.int (iI (z))) ∧ u = st ∧ (FD (fun k => st.2 11 (k * 6 + f)) (Y.2 2 f) n z)) := by
  refine MC_intro RX0 (by decide) rfl (Nat.le_of_ble_eq_true rfl) ?_
  intro G H0 m hE hR
  refine k_lo [0, 1, 2] (lo' := [(0, .ref (ad 4)), (1, .int (iI f)), (2, .int (iI n))]) rfl ?_
  obtain ⟨hi0, hi1, hi2, hi3, hi4, hi5, hi6, hi7, hit, hir, him, hin⟩ := id hI
  refine k_iconst hE dX0_firstDry_0 ?_
  refine k_istore_n hE dX0_firstDry_1 [1, 2, 3, 0] rfl (Nat.le_of_ble_eq_true rfl) (lo' := [(0, .ref (ad 4)), (1, .int (iI f)), (2, .int (iI n)), (3, .int (iI 0))]) rfl ?_
  have L2 : ∀ (fu2 : Nat) (k : Int), (0 ≤ k ∧ k ≤ n) → (n - k < fu2) → (∀ j : Int, 0 ≤ j → j < k → Y.2 2 f ≤ st.2 11 (j * 6 + f)) → KW (xw ad ta sa ca D cI cT cS) G H0 m 4 st 2 [(0, .ref (ad 4)), (1, .int (iI f)), (2, .int (iI n)), (3, .int (iI k))] [] := by
    intro fu2
    induction fu2 with
    | zero =>
      intro k q0 q1 q2
      omega
    | succ fu2 ih2 =>
      intro k q0 q1 q2
      refine k_iload_n hE dX0_firstDry_2 3 rfl rfl ?_
      refine k_iload_n hE dX0_firstDry_3 2 rfl rfl ?_
      refine k_icmp_ge hE 24 dX0_firstDry_4 (by decide) (by unfold in32; omega) (by unfold in32; omega) (fun c4 => ?_) (fun c4 => ?_)
      · refine k_bipush hE dX0_firstDry_24 rfl ?_
        exact k_iret hR dX0_firstDry_26 rfl ⟨_, rfl, rfl, Or.inl ⟨rfl, fun j j0 j1 => q2 j j0 (by omega)⟩⟩
      · have hk := hg k (by omega) (by omega)
        refine k_aload_n hE dX0_firstDry_7 0 rfl rfl ?_
        refine k_iload_n hE dX0_firstDry_8 1 rfl rfl ?_
        refine k_iload_n hE dX0_firstDry_9 3 rfl rfl ?_
        refine k_callV hE (c_X0_isDry st Y f k hA hI (by omega) (by omega) (by omega) (by omega)) mf_X0_isDry ml_X0_99 4 rfl rfl rfl rfl ⟨rfl, rfl, Nat.le_of_ble_eq_true rfl, Nat.le_of_ble_eq_true rfl⟩ [] (Nat.le_of_ble_eq_true rfl) dX0_firstDry_10 rfl (fun rv u hp => ?_)
        obtain ⟨z1, hv10, hu10, hz_10⟩ := hp
        refine k_sk (sk' := [.int (iI z1)]) (by rw [hv10]; rfl) ?_
        refine k_st st hu10 ?_
        refine k_if_eq hE 18 dX0_firstDry_13 (by decide) (by unfold in32; omega) (fun c13 => ?_) (fun c13 => ?_)
        · refine k_iinc hE dX0_firstDry_18 3 [1, 2, 3, 0] rfl (Nat.le_of_ble_eq_true rfl) (lo' := [(0, .ref (ad 4)), (1, .int (iI f)), (2, .int (iI n)), (3, .int (iI (k + 1)))]) rfl ?_
          refine k_goto hE 2 dX0_firstDry_21 (by decide) ?_
          exact ih2 _ (by omega) (by omega) (fun j j0 j1 => by by_cases e : j = k; (rw [e]; omega); exact q2 j j0 (by omega))
        · refine k_iload_n hE dX0_firstDry_16 3 rfl rfl ?_
          exact k_iret hR dX0_firstDry_17 rfl ⟨_, rfl, rfl, Or.inr ⟨by omega, by omega, (show st.2 11 (k * 6 + f) < Y.2 2 f by omega), q2⟩⟩
  exact L2 11 0 (by omega) (by omega) (fun j h1 h2 => by omega)

set_option maxHeartbeats 4000000 in
set_option maxRecDepth 100000 in
theorem c_X0_countNeverDry {ad : Nat → Nat} {ta sa ca : Int → Nat} {D : va_G} {cI cT cS : ClassId} (st : Sg) (Y : Sg) (n : Int) (hA : Ag st Y) (hI : Inv Y) (hn : 0 ≤ n ∧ n ≤ 10) (hg : ∀ f : Int, 0 ≤ f → f < Y.1 0 → ∀ k : Int, 0 ≤ k → k < n → -1000 ≤ st.2 11 (k * 6 + f) ∧ st.2 11 (k * 6 + f) ≤ 1000) : MC (xw ad ta sa ca D cI cT cS) yX0_countNeverDry cX0_countNeverDry 4 (some .int) { frames := 3, cells := 0, slots := 0, locals := 67 } [.ref (ad 4), .int (iI n)] st (fun rv u => rv = some (.int (iI (CT (fun f => ∀ k : Int, 0 ≤ k → k < n → Y.2 2 f ≤ st.2 11 (k * 6 + f)) (Y.1 0).toNat))) ∧ u = st) := by
  refine MC_intro RX0 (by decide) rfl (Nat.le_of_ble_eq_true rfl) ?_
  intro G H0 m hE hR
  refine k_lo [0, 1] (lo' := [(0, .ref (ad 4)), (1, .int (iI n))]) rfl ?_
  obtain ⟨hi0, hi1, hi2, hi3, hi4, hi5, hi6, hi7, hit, hir, him, hin⟩ := id hI
  refine k_iconst hE dX0_countNeverDry_0 ?_
  refine k_istore_n hE dX0_countNeverDry_1 [1, 2, 0] rfl (Nat.le_of_ble_eq_true rfl) (lo' := [(0, .ref (ad 4)), (1, .int (iI n)), (2, .int (iI 0))]) rfl ?_
  refine k_iconst hE dX0_countNeverDry_2 ?_
  refine k_istore_n hE dX0_countNeverDry_3 [1, 2, 3, 0] rfl (Nat.le_of_ble_eq_true rfl) (lo' := [(0, .ref (ad 4)), (1, .int (iI n)), (2, .int (iI 0)), (3, .int (iI 0))]) rfl ?_
  have L4 : ∀ (fu4 : Nat) (c : Int) (f : Nat), ((f : Int) ≤ Y.1 0) → (Y.1 0 - f < fu4) → (c = CT (fun f => ∀ k : Int, 0 ≤ k → k < n → Y.2 2 f ≤ st.2 11 (k * 6 + f)) f) → KW (xw ad ta sa ca D cI cT cS) G H0 m 4 st 4 [(0, .ref (ad 4)), (1, .int (iI n)), (2, .int (iI c)), (3, .int (iI ((f : Int))))] [] := by
    intro fu4
    induction fu4 with
    | zero =>
      intro c f q0 q1 q2
      omega
    | succ fu4 ih4 =>
      intro c f q0 q1 q2
      refine k_iload_n hE dX0_countNeverDry_4 3 rfl rfl ?_
      refine k_aload_n hE dX0_countNeverDry_5 0 rfl rfl ?_
      refine x_get_X0_yard hE fl_X0_24 dX0_countNeverDry_6 ?_
      refine x_get_X5_tapCount hE (z := Y.1 0) (hA.1 0 (by decide)) fl_X0_32 dX0_countNeverDry_9 ?_
      refine k_icmp_ge hE 35 dX0_countNeverDry_12 (by decide) (by unfold in32; omega) (by unfold in32; omega) (fun c12 => ?_) (fun c12 => ?_)
      · refine k_iload_n hE dX0_countNeverDry_35 2 rfl rfl ?_
        refine k_iret hR dX0_countNeverDry_36 rfl ?_
        have ef : (Y.1 0).toNat = f := by omega
        exact ⟨ret_i (by rw [ef]; exact q2), rfl⟩
      · refine k_aload_n hE dX0_countNeverDry_15 0 rfl rfl ?_
        refine k_iload_n hE dX0_countNeverDry_16 3 rfl rfl ?_
        refine k_iload_n hE dX0_countNeverDry_17 1 rfl rfl ?_
        refine k_callV hE (c_X0_firstDry st Y ((f : Int)) n hA hI (by omega) (by omega) (by omega) (hg f (by omega) (by omega))) mf_X0_firstDry ml_X0_102 4 rfl rfl rfl rfl ⟨rfl, rfl, Nat.le_of_ble_eq_true rfl, Nat.le_of_ble_eq_true rfl⟩ [] (Nat.le_of_ble_eq_true rfl) dX0_countNeverDry_18 rfl (fun rv u hp => ?_)
        obtain ⟨z1, hv18, hu18, hz_18⟩ := hp
        refine k_sk (sk' := [.int (iI z1)]) (by rw [hv18]; rfl) ?_
        refine k_st st hu18 ?_
        have hz2 : -9 ≤ z1 ∧ z1 ≤ 10 := by rcases hz_18 with h | h <;> omega
        refine k_bipush hE dX0_countNeverDry_21 rfl ?_
        refine k_icmp_ne hE 29 dX0_countNeverDry_23 (by decide) (by unfold in32; omega) (by unfold in32; omega) (fun c23 => ?_) (fun c23 => ?_)
        · refine k_iinc hE dX0_countNeverDry_29 3 [1, 2, 3, 0] rfl (Nat.le_of_ble_eq_true rfl) (lo' := [(0, .ref (ad 4)), (1, .int (iI n)), (2, .int (iI c)), (3, .int (iI (((f : Int)) + 1)))]) rfl ?_
          refine k_goto hE 4 dX0_countNeverDry_32 (by decide) ?_
          refine ih4 _ (f + 1) (by omega) (by omega) ?_
          first
            | (rw [CT_y (P := fun f => ∀ k : Int, 0 ≤ k → k < n → Y.2 2 f ≤ st.2 11 (k * 6 + f)) (k := f) ((FD_none hz_18).mp (by omega))]; omega)
            | (rw [CT_n (P := fun f => ∀ k : Int, 0 ≤ k → k < n → Y.2 2 f ≤ st.2 11 (k * 6 + f)) (k := f) (fun h => absurd ((FD_none hz_18).mpr h) (by omega))]; omega)
        · refine k_iinc hE dX0_countNeverDry_26 2 [1, 2, 0, 3] rfl (Nat.le_of_ble_eq_true rfl) (lo' := [(0, .ref (ad 4)), (1, .int (iI n)), (2, .int (iI (c + 1))), (3, .int (iI ((f : Int))))]) rfl ?_
          refine k_iinc hE dX0_countNeverDry_29 3 [1, 2, 3, 0] rfl (Nat.le_of_ble_eq_true rfl) (lo' := [(0, .ref (ad 4)), (1, .int (iI n)), (2, .int (iI (c + 1))), (3, .int (iI (((f : Int)) + 1)))]) rfl ?_
          refine k_goto hE 4 dX0_countNeverDry_32 (by decide) ?_
          refine ih4 _ (f + 1) (by omega) (by omega) ?_
          first
            | (rw [CT_y (P := fun f => ∀ k : Int, 0 ≤ k → k < n → Y.2 2 f ≤ st.2 11 (k * 6 + f)) (k := f) ((FD_none hz_18).mp (by omega))]; omega)
            | (rw [CT_n (P := fun f => ∀ k : Int, 0 ≤ k → k < n → Y.2 2 f ≤ st.2 11 (k * 6 + f)) (k := f) (fun h => absurd ((FD_none hz_18).mpr h) (by omega))]; omega)
  exact L4 7 0 0 (by omega) (by omega) rfl

set_option maxHeartbeats 4000000 in
set_option maxRecDepth 100000 in
theorem c_X0_drawnInAll {ad : Nat → Nat} {ta sa ca : Int → Nat} {D : va_G} {cI cT cS : ClassId} (st : Sg) (Y : Sg) (f : Int) (n : Int) (hA : Ag st Y) (hI : Inv Y) (h0 : 0 ≤ f) (h1 : f < 6) (hn : 0 ≤ n ∧ n ≤ 10) : MC (xw ad ta sa ca D cI cT cS) yX0_drawnInAll cX0_drawnInAll 5 (some .int) { frames := 1, cells := 0, slots := 0, locals := 22 } [.ref (ad 4), .int (iI f), .int (iI n)] st (fun rv u => rv = some (.int (iI (SM (fun k => st.2 11 (k * 6 + f)) n.toNat))) ∧ u = st) := by
  refine MC_intro RX0 (by decide) rfl (Nat.le_of_ble_eq_true rfl) ?_
  intro G H0 m hE hR
  refine k_lo [0, 1, 2] (lo' := [(0, .ref (ad 4)), (1, .int (iI f)), (2, .int (iI n))]) rfl ?_
  obtain ⟨hi0, hi1, hi2, hi3, hi4, hi5, hi6, hi7, hit, hir, him, hin⟩ := id hI
  refine k_iconst hE dX0_drawnInAll_0 ?_
  refine k_istore_n hE dX0_drawnInAll_1 [1, 2, 3, 0] rfl (Nat.le_of_ble_eq_true rfl) (lo' := [(0, .ref (ad 4)), (1, .int (iI f)), (2, .int (iI n)), (3, .int (iI 0))]) rfl ?_
  refine k_iconst hE dX0_drawnInAll_2 ?_
  refine k_istore hE dX0_drawnInAll_3 [1, 2, 3, 4, 0] (Nat.le_of_ble_eq_true rfl) (lo' := [(0, .ref (ad 4)), (1, .int (iI f)), (2, .int (iI n)), (3, .int (iI 0)), (4, .int (iI 0))]) rfl ?_
  have L5 : ∀ (fu5 : Nat) (c : Int) (k : Nat), ((k : Int) ≤ n) → (n - k < fu5) → (c = SM (fun k => st.2 11 (k * 6 + f)) k) → KW (xw ad ta sa ca D cI cT cS) G H0 m 5 st 5 [(0, .ref (ad 4)), (1, .int (iI f)), (2, .int (iI n)), (3, .int (iI c)), (4, .int (iI ((k : Int))))] [] := by
    intro fu5
    induction fu5 with
    | zero =>
      intro c k q0 q1 q2
      omega
    | succ fu5 ih5 =>
      intro c k q0 q1 q2
      refine k_iload hE dX0_drawnInAll_5 4 rfl ?_
      refine k_iload_n hE dX0_drawnInAll_7 2 rfl rfl ?_
      refine k_icmp_ge hE 27 dX0_drawnInAll_8 (by decide) (by unfold in32; omega) (by unfold in32; omega) (fun c8 => ?_) (fun c8 => ?_)
      · refine k_iload_n hE dX0_drawnInAll_27 3 rfl rfl ?_
        refine k_iret hR dX0_drawnInAll_28 rfl ?_
        have ef : n.toNat = k := by omega
        exact ⟨ret_i (by rw [ef]; exact q2), rfl⟩
      · refine k_iload_n hE dX0_drawnInAll_11 3 rfl rfl ?_
        refine k_aload_n hE dX0_drawnInAll_12 0 rfl rfl ?_
        refine k_iload_n hE dX0_drawnInAll_13 1 rfl rfl ?_
        refine k_iload hE dX0_drawnInAll_14 4 rfl ?_
        refine k_callV hE (c_X0_drawnBy st f ((k : Int)) (by omega) (by omega) (by omega)) mf_X0_drawnBy ml_X0_90 4 rfl rfl rfl rfl ⟨rfl, rfl, Nat.le_of_ble_eq_true rfl, Nat.le_of_ble_eq_true rfl⟩ [.int (iI c)] (Nat.le_of_ble_eq_true rfl) dX0_drawnInAll_16 rfl (fun rv u hp => ?_)
        obtain ⟨hv16, hu16⟩ := hp
        refine k_sk (sk' := [.int (iI (st.2 11 (((k : Int)) * 6 + f))), .int (iI c)]) (by rw [hv16]; rfl) ?_
        refine k_st st hu16 ?_
        refine k_iadd hE dX0_drawnInAll_19 ?_
        refine k_istore_n hE dX0_drawnInAll_20 [1, 2, 3, 0, 4] rfl (Nat.le_of_ble_eq_true rfl) (lo' := [(0, .ref (ad 4)), (1, .int (iI f)), (2, .int (iI n)), (3, .int (iI (c + (st.2 11 (((k : Int)) * 6 + f))))), (4, .int (iI ((k : Int))))]) rfl ?_
        refine k_iinc hE dX0_drawnInAll_21 4 [1, 2, 3, 4, 0] rfl (Nat.le_of_ble_eq_true rfl) (lo' := [(0, .ref (ad 4)), (1, .int (iI f)), (2, .int (iI n)), (3, .int (iI (c + (st.2 11 (((k : Int)) * 6 + f))))), (4, .int (iI (((k : Int)) + 1)))]) rfl ?_
        refine k_goto hE 5 dX0_drawnInAll_24 (by decide) ?_
        exact ih5 _ (k + 1) (by omega) (by omega) (by rw [SM, ← q2])
  exact L5 11 0 0 (by omega) (by omega) rfl

set_option maxHeartbeats 4000000 in
set_option maxRecDepth 100000 in
theorem c_X0_allHaveNeeds {ad : Nat → Nat} {ta sa ca : Int → Nat} {D : va_G} {cI cT cS : ClassId} (st : Sg) (Y : Sg) (w : Int) (n : Int) (hA : Ag st Y) (hI : Inv Y) (hw : 0 ≤ w ∧ w ≤ Y.1 1) (hn : 0 ≤ n ∧ n ≤ 10) : MC (xw ad ta sa ca D cI cT cS) yX0_allHaveNeeds cX0_allHaveNeeds 5 (some .boolean) { frames := 4, cells := 0, slots := 0, locals := 101 } [.ref (ad 4), .int (iI w), .int (iI n)] st (fun rv u => ∃ z : Int, ∃ S : Sg, rv = some (.int (iI (z))) ∧ u = S ∧ ((z = 1 ∧ CA Y w n) ∨ (z = 0 ∧ ¬ CA Y w n)) ∧ (XS st S)) := by
  refine MC_intro RX0 (by decide) rfl (Nat.le_of_ble_eq_true rfl) ?_
  intro G H0 m hE hR
  refine k_lo [0, 1, 2] (lo' := [(0, .ref (ad 4)), (1, .int (iI w)), (2, .int (iI n))]) rfl ?_
  obtain ⟨hi0, hi1, hi2, hi3, hi4, hi5, hi6, hi7, hit, hir, him, hin⟩ := id hI
  refine k_aload_n hE dX0_allHaveNeeds_0 0 rfl rfl ?_
  refine k_iload_n hE dX0_allHaveNeeds_1 1 rfl rfl ?_
  refine k_iconst hE dX0_allHaveNeeds_2 ?_
  refine k_callV hE (c_X0_startWith st Y w 3 hA hI (by omega)) mf_X0_startWith ml_X0_105 4 rfl rfl rfl rfl ⟨rfl, rfl, Nat.le_of_ble_eq_true rfl, Nat.le_of_ble_eq_true rfl⟩ [] (Nat.le_of_ble_eq_true rfl) dX0_allHaveNeeds_3 rfl (fun rv u hp => ?_)
  obtain ⟨S1, hv3, hu3, e1_3, e2_3, e3_3⟩ := hp
  refine k_sk (sk' := []) (by rw [hv3]; rfl) ?_
  refine k_st S1 hu3 ?_
  have hB : Ag S1 Y := ⟨fun i hi => by rw [e1_3, uv_n _ _ (by omega)]; exact hA.1 i hi, fun a ha => by rw [e2_3 a (by omega), ur_n _ _ _ (by omega)]; exact hA.2 a ha⟩
  refine k_iconst hE dX0_allHaveNeeds_6 ?_
  refine k_istore_n hE dX0_allHaveNeeds_7 [1, 2, 3, 0] rfl (Nat.le_of_ble_eq_true rfl) (lo' := [(0, .ref (ad 4)), (1, .int (iI w)), (2, .int (iI n)), (3, .int (iI 0))]) rfl ?_
  have L8 : ∀ (fu8 : Nat) (S : Sg) (k : Nat), ((k : Int) ≤ n) → (n - k < fu8) → (S.1 = uv st.1 10 3) → (∀ a, (a < 9 ∨ 12 < a) → S.2 a = st.2 a) → (OR Y 3 (S.2 12) (Y.1 0).toNat) → (Ran Y 3 w (Y.2 4) S.2 k 9 10 11) → (∀ i : Int, 0 ≤ i → i < k → ∀ f : Int, 0 ≤ f → f < Y.1 0 → Y.2 2 f ≤ gD Y 3 w (Y.2 4) f i) → KW (xw ad ta sa ca D cI cT cS) G H0 m 5 S 8 [(0, .ref (ad 4)), (1, .int (iI w)), (2, .int (iI n)), (3, .int (iI ((k : Int))))] [] := by
    intro fu8
    induction fu8 with
    | zero =>
      intro S k q0 q1 e1 e2 eO er ep
      omega
    | succ fu8 ih8 =>
      intro S k q0 q1 e1 e2 eO er ep
      have hAS : Ag S Y := ⟨fun i hi => by rw [e1, uv_n _ _ (by omega)]; exact hA.1 i hi, fun a ha => by rw [e2 a (by omega)]; exact hA.2 a ha⟩
      have hxS : XS st S := ⟨fun i hi => by rw [e1, uv_n _ _ hi], e2⟩
      refine k_iload_n hE dX0_allHaveNeeds_8 3 rfl rfl ?_
      refine k_iload_n hE dX0_allHaveNeeds_9 2 rfl rfl ?_
      refine k_icmp_ge hE 66 dX0_allHaveNeeds_10 (by decide) (by unfold in32; omega) (by unfold in32; omega) (fun c10 => ?_) (fun c10 => ?_)
      · refine k_iconst hE dX0_allHaveNeeds_66 ?_
        exact k_zret hR dX0_allHaveNeeds_67 rfl (nar_b (by omega)) ⟨_, _, rfl, rfl, Or.inl ⟨rfl, fun f f0 f1 i i0 i1 => ep i i0 (by omega) f f0 f1⟩, hxS⟩
      · refine k_aload_n hE dX0_allHaveNeeds_13 0 rfl rfl ?_
        refine k_iload_n hE dX0_allHaveNeeds_14 3 rfl rfl ?_
        refine k_aload_n hE dX0_allHaveNeeds_15 0 rfl rfl ?_
        refine x_get_X0_yard hE fl_X0_24 dX0_allHaveNeeds_16 ?_
        refine x_get_X5_rainOn hE fl_X0_50 dX0_allHaveNeeds_19 ?_
        refine k_iload_n hE dX0_allHaveNeeds_22 3 rfl rfl ?_
        refine x_ld_rainOn hE (z := Y.2 4 ((k : Int))) (by omega) (by omega) (congrFun (hAS.2 4 (by decide)) ((k : Int))) dX0_allHaveNeeds_23 ?_
        refine k_callV hE (c_X0_passDay S Y ((k : Int)) (Y.2 4 ((k : Int))) (lev Y 3 w (Y.2 4) k) 3 hAS hI (by omega) (hir k (by omega) (by omega)) (er.1 k (Nat.le_refl k)).1 (er.1 k (Nat.le_refl k)).2 (by rw [e1]; exact uv_s _ _ _) (by omega) eO) mf_X0_passDay ml_X0_53 4 rfl rfl rfl rfl ⟨rfl, rfl, Nat.le_of_ble_eq_true rfl, Nat.le_of_ble_eq_true rfl⟩ [] (Nat.le_of_ble_eq_true rfl) dX0_allHaveNeeds_24 rfl (fun rv u hp => ?_)
        obtain ⟨S2, hv24, hu24, e1_24, e2_24, l1_24, l2_24, o1_24, o2_24, g1_24, g2_24, rg_24, gr_24⟩ := hp
        refine k_sk (sk' := []) (by rw [hv24]; rfl) ?_
        refine k_st S2 hu24 ?_
        have hAS2 : Ag S2 Y := ⟨fun i hi => by rw [e1_24]; exact hAS.1 i hi, fun a ha => by rw [e2_24 a (by omega)]; exact hAS.2 a ha⟩
        have er2 : Ran Y 3 w (Y.2 4) S2.2 (k + 1) 9 10 11 := Ran_s er l1_24 l2_24 o1_24 o2_24 g1_24 g2_24 rg_24 gr_24 hi0.2
        have hx2 : XS st S2 := hxS.trans ⟨fun i hi => by rw [e1_24], fun a ha => e2_24 a (by omega)⟩
        refine k_iconst hE dX0_allHaveNeeds_27 ?_
        refine k_istore hE dX0_allHaveNeeds_28 [1, 2, 3, 4, 0] (Nat.le_of_ble_eq_true rfl) (lo' := [(0, .ref (ad 4)), (1, .int (iI w)), (2, .int (iI n)), (3, .int (iI ((k : Int)))), (4, .int (iI 0))]) rfl ?_
        have L30 : ∀ (fu30 : Nat) (f : Int), (0 ≤ f ∧ f ≤ Y.1 0) → (Y.1 0 - f < fu30) → (∀ g : Int, 0 ≤ g → g < f → Y.2 2 g ≤ gD Y 3 w (Y.2 4) g k) → KW (xw ad ta sa ca D cI cT cS) G H0 m 5 S2 30 [(0, .ref (ad 4)), (1, .int (iI w)), (2, .int (iI n)), (3, .int (iI ((k : Int)))), (4, .int (iI f))] [] := by
          intro fu30
          induction fu30 with
          | zero =>
            intro f p0 p1 fp
            omega
          | succ fu30 ih30 =>
            intro f p0 p1 fp
            refine k_iload hE dX0_allHaveNeeds_30 4 rfl ?_
            refine k_aload_n hE dX0_allHaveNeeds_32 0 rfl rfl ?_
            refine x_get_X0_yard hE fl_X0_24 dX0_allHaveNeeds_33 ?_
            refine x_get_X5_tapCount hE (z := Y.1 0) (hAS2.1 0 (by decide)) fl_X0_32 dX0_allHaveNeeds_36 ?_
            refine k_icmp_ge hE 60 dX0_allHaveNeeds_39 (by decide) (by unfold in32; omega) (by unfold in32; omega) (fun c39 => ?_) (fun c39 => ?_)
            · refine k_iinc hE dX0_allHaveNeeds_60 3 [1, 2, 3, 0, 4] rfl (Nat.le_of_ble_eq_true rfl) (lo' := [(0, .ref (ad 4)), (1, .int (iI w)), (2, .int (iI n)), (3, .int (iI (((k : Int)) + 1))), (4, .int (iI f))]) rfl ?_
              refine k_goto hE 8 dX0_allHaveNeeds_63 (by decide) ?_
              refine k_lo [0, 1, 2, 3] (lo' := [(0, .ref (ad 4)), (1, .int (iI w)), (2, .int (iI n)), (3, .int (iI (((k : Int)) + 1)))]) rfl ?_
              exact ih8 S2 (k + 1) (by omega) (by omega) (e1_24.trans e1) (fun a ha => (e2_24 a (by omega)).trans (e2 a ha)) (by rw [e2_24 12 (by decide)]; exact eO) er2 (fun i i0 i1 g g0 g1 => by by_cases e : i = k; (rw [e]; exact fp g g0 (by omega)); exact ep i i0 (by omega) g g0 g1)
            · have hg := Ran_gD er2 (f := f) (k := (k : Int)) (by omega) (by omega) (by omega) (by omega)
              refine k_aload_n hE dX0_allHaveNeeds_42 0 rfl rfl ?_
              refine k_iload hE dX0_allHaveNeeds_43 4 rfl ?_
              refine k_iload_n hE dX0_allHaveNeeds_45 3 rfl rfl ?_
              refine k_callV hE (c_X0_isDry S2 Y f ((k : Int)) hAS2 hI (by omega) (by omega) (by omega) (by omega)) mf_X0_isDry ml_X0_99 4 rfl rfl rfl rfl ⟨rfl, rfl, Nat.le_of_ble_eq_true rfl, Nat.le_of_ble_eq_true rfl⟩ [] (Nat.le_of_ble_eq_true rfl) dX0_allHaveNeeds_46 rfl (fun rv u hp => ?_)
              obtain ⟨z1, hv46, hu46, hz_46⟩ := hp
              refine k_sk (sk' := [.int (iI z1)]) (by rw [hv46]; rfl) ?_
              refine k_st S2 hu46 ?_
              refine k_if_eq hE 54 dX0_allHaveNeeds_49 (by decide) (by unfold in32; omega) (fun c49 => ?_) (fun c49 => ?_)
              · refine k_iinc hE dX0_allHaveNeeds_54 4 [1, 2, 3, 4, 0] rfl (Nat.le_of_ble_eq_true rfl) (lo' := [(0, .ref (ad 4)), (1, .int (iI w)), (2, .int (iI n)), (3, .int (iI ((k : Int)))), (4, .int (iI (f + 1)))]) rfl ?_
                refine k_goto hE 30 dX0_allHaveNeeds_57 (by decide) ?_
                exact ih30 _ (by omega) (by omega) (fun g g0 g1 => by by_cases e : g = f; (rw [e]; omega); exact fp g g0 (by omega))
              · refine k_iconst hE dX0_allHaveNeeds_52 ?_
                exact k_zret hR dX0_allHaveNeeds_53 rfl (nar_b (by omega)) ⟨_, _, rfl, rfl, Or.inr ⟨rfl, fun h => by have h5 := h f (by omega) (by omega) (k : Int) (by omega) (by omega); omega⟩, hx2⟩
        exact L30 7 0 (by omega) (by omega) (fun g g0 g1 => by omega)
  exact L8 11 S1 0 (by omega) (by omega) e1_3 (fun a ha => by rw [e2_3 a (by omega), ur_n _ _ _ (by omega)]) e3_3 (Ran_0 (by rw [e2_3 9 (by decide)]; exact ur_s _ _ _ _) hw) (fun i i0 i1 => by omega)
end
section
/-! what the calls answer, in numbers -/
def OT (Y : Sg) (f what : Int) : Int := if f < 0 ∨ Y.1 0 ≤ f then -1 else if what = 0 then Y.2 0 f else if what = 1 then Y.2 1 f else if what = 2 then Y.2 2 f else if what = 3 then Y.2 3 f else if what = 4 then WN Y f else -2
noncomputable def GT (Y : Sg) (f d : Int) : Int := if (f < 0 ∨ Y.1 0 ≤ f) ∨ (d < 0 ∨ 9 < d) then -1 else gD Y (Y.1 4) (Y.1 3) (Y.2 4) f d
noncomputable def LE (Y : Sg) (d : Int) : Int := if d < 0 ∨ 10 < d then -1 else if Y.1 0 = 0 then -3 else lev Y (Y.1 4) (Y.1 3) (Y.2 4) d.toNat
noncomputable def OV (Y : Sg) (d : Int) : Int := if d < 0 ∨ 9 < d then -1 else if Y.1 0 = 0 then -3 else max 0 (lev Y (Y.1 4) (Y.1 3) (Y.2 4) d.toNat + Y.2 4 d - Y.1 1)
/-- the pails that no tap gives, of w -/
def NBr (Y : Sg) (w z : Int) : Prop := z ≤ w ∧ (∀ f : Int, 0 ≤ f → f < Y.1 0 → z ≤ Y.2 1 f * Y.1 2) ∧ (z = w ∨ ∃ f : Int, 0 ≤ f ∧ f < Y.1 0 ∧ z = Y.2 1 f * Y.1 2)
theorem NBr_uni {Y : Sg} {w z z' : Int} (h : NBr Y w z) (h' : NBr Y w z') : z = z' := by
  obtain ⟨a, b, c⟩ := h
  obtain ⟨a', b', c'⟩ := h'
  rcases c with c | ⟨f, f0, f1, c⟩ <;> rcases c' with c' | ⟨g, g0, g1, c'⟩
  · omega
  · have := b g g0 g1; omega
  · have := b' f f0 f1; omega
  · have h1 := b g g0 g1
    have h2 := b' f f0 f1
    omega
def NB (Y : Sg) (d z : Int) : Prop := ((d < 0 ∨ 10 < d) ∧ z = -1) ∨ (¬ (d < 0 ∨ 10 < d) ∧ Y.1 0 = 0 ∧ z = -3) ∨ (¬ (d < 0 ∨ 10 < d) ∧ Y.1 0 ≠ 0 ∧ NBr Y (lev Y (Y.1 4) (Y.1 3) (Y.2 4) d.toNat) z)
def DY (Y : Sg) (f z : Int) : Prop := ((f < 0 ∨ Y.1 0 ≤ f) ∧ z = -1) ∨ (¬ (f < 0 ∨ Y.1 0 ≤ f) ∧ FD (fun k => gD Y (Y.1 4) (Y.1 3) (Y.2 4) f k) (Y.2 2 f) 10 z)
/-- refused: n days, a yard -/
def RF (Y : Sg) (n z : Int) (P : Prop) : Prop := ((n < 0 ∨ 10 < n) ∧ z = -2) ∨ (¬ (n < 0 ∨ 10 < n) ∧ Y.1 0 = 0 ∧ z = -3) ∨ (¬ (n < 0 ∨ 10 < n) ∧ Y.1 0 ≠ 0 ∧ P)
def CN (Y : Sg) (n z : Int) : Prop := RF Y n z ((z = 1 ∧ CA Y (Y.1 3) n) ∨ (z = 0 ∧ ¬ CA Y (Y.1 3) n))
def STr (Y : Sg) (n z : Int) : Prop := (z = -9 ∧ ∀ w : Int, 0 ≤ w → w ≤ Y.1 1 → ¬ CA Y w n) ∨ (0 ≤ z ∧ z ≤ Y.1 1 ∧ CA Y z n ∧ ∀ w : Int, 0 ≤ w → w < z → ¬ CA Y w n)
theorem STr_uni {Y : Sg} {n z z' : Int} (h : STr Y n z) (h' : STr Y n z') : z = z' := by
  rcases h with ⟨a, b⟩ | ⟨a0, a1, a2, a3⟩ <;> rcases h' with ⟨c, d⟩ | ⟨c0, c1, c2, c3⟩
  · omega
  · exact absurd c2 (b z' c0 c1)
  · exact absurd a2 (d z a0 a1)
  · rcases Int.lt_trichotomy z z' with t | t | t
    · exact absurd a2 (c3 z a0 t)
    · exact t
    · exact absurd c2 (a3 z' c0 t)
def SA (Y : Sg) (n z : Int) : Prop := RF Y n z (STr Y n z)
/-- how many are never dry by law q -/
noncomputable def NC (Y : Sg) (n q : Int) : Int := CT (fun f => NV Y q (Y.1 3) (Y.2 4) n f) (Y.1 0).toNat
/-- the best of the laws 0 .. m less 1 -/
def BLr (N : Int → Int) (m b c : Int) : Prop := (m = 0 ∧ b = 0 ∧ c = -1) ∨ (0 ≤ b ∧ b < m ∧ c = N b ∧ (∀ q : Int, 0 ≤ q → q < m → N q ≤ c) ∧ (∀ q : Int, 0 ≤ q → q < b → N q < c))
theorem BLr_s {N : Int → Int} {m b c : Int} (h : BLr N m b c) (hm : 0 ≤ m) (h0 : 0 ≤ N m) : BLr N (m + 1) (if N m > c then m else b) (if N m > c then N m else c) := by
  by_cases e : N m > c
  · rw [if_pos e, if_pos e]
    refine Or.inr ⟨hm, by omega, rfl, fun q q0 q1 => ?_, fun q q0 q1 => ?_⟩
    · rcases h with ⟨a1, a2, a3⟩ | ⟨a1, a2, a3, a4, a5⟩
      · have : q = m := by omega
        rw [this]; omega
      · by_cases eq : q = m
        · rw [eq]; omega
        · have := a4 q q0 (by omega); omega
    · rcases h with ⟨a1, a2, a3⟩ | ⟨a1, a2, a3, a4, a5⟩
      · omega
      · have := a4 q q0 (by omega); omega
  · rw [if_neg e, if_neg e]
    rcases h with ⟨a1, a2, a3⟩ | ⟨a1, a2, a3, a4, a5⟩
    · omega
    · refine Or.inr ⟨a1, by omega, a3, fun q q0 q1 => ?_, a5⟩
      by_cases eq : q = m
      · rw [eq]; omega
      · exact a4 q q0 (by omega)
theorem BLr_uni {N : Int → Int} {m b c b' c' : Int} (h : BLr N m b c) (h' : BLr N m b' c') : b = b' ∧ c = c' := by
  rcases h with ⟨a1, a2, a3⟩ | ⟨a1, a2, a3, a4, a5⟩ <;> rcases h' with ⟨d1, d2, d3⟩ | ⟨d1, d2, d3, d4, d5⟩
  · omega
  · omega
  · omega
  · rcases Int.lt_trichotomy b b' with t | t | t
    · have h1 := d5 b a1 t
      have h2 := a4 b' d1 d2
      omega
    · refine ⟨t, ?_⟩
      rw [a3, d3, t]
    · have h1 := a5 b' d1 t
      have h2 := d4 b a1 a2
      omega
/-- best: law or number -/
def BE (Y : Sg) (n what z : Int) : Prop := ((n < 0 ∨ 10 < n) ∨ (what < 0 ∨ 1 < what)) ∧ z = -2 ∨ (¬ ((n < 0 ∨ 10 < n) ∨ (what < 0 ∨ 1 < what)) ∧ Y.1 0 = 0 ∧ z = -3) ∨ (¬ ((n < 0 ∨ 10 < n) ∨ (what < 0 ∨ 1 < what)) ∧ Y.1 0 ≠ 0 ∧ ∃ b c : Int, BLr (NC Y n) 3 b c ∧ z = if what = 0 then b else c)
/-- a yard with one tap at another height -/
def YH (Y : Sg) (f h : Int) : Sg := (Y.1, ur Y.2 1 f h)
def HGr (P : Int → Prop) (z : Int) : Prop := (z = -9 ∧ ∀ h : Int, 0 ≤ h → h ≤ 9 → ¬ P h) ∨ (0 ≤ z ∧ z ≤ 9 ∧ P z ∧ ∀ h : Int, z < h → h ≤ 9 → ¬ P h)
theorem HGr_uni {P : Int → Prop} {z z' : Int} (h : HGr P z) (h' : HGr P z') : z = z' := by
  rcases h with ⟨a, b⟩ | ⟨a0, a1, a2, a3⟩ <;> rcases h' with ⟨c, d⟩ | ⟨c0, c1, c2, c3⟩
  · omega
  · exact absurd c2 (b z' c0 c1)
  · exact absurd a2 (d z a0 a1)
  · rcases Int.lt_trichotomy z z' with t | t | t
    · exact absurd c2 (a3 z' t c1)
    · exact t
    · exact absurd a2 (c3 z t a1)
def HI (Y : Sg) (f n z : Int) : Prop := ((f < 0 ∨ Y.1 0 ≤ f) ∧ z = -1) ∨ (¬ (f < 0 ∨ Y.1 0 ≤ f) ∧ (n < 0 ∨ 10 < n) ∧ z = -2) ∨ (¬ (f < 0 ∨ Y.1 0 ≤ f) ∧ ¬ (n < 0 ∨ 10 < n) ∧ HGr (fun h => NV (YH Y f h) (Y.1 4) (Y.1 3) (Y.2 4) n f) z)
theorem YH_Inv {Y : Sg} (hI : Inv Y) {f h : Int} (hh : 0 ≤ h ∧ h ≤ 9) : Inv (YH Y f h) := by
  obtain ⟨hi0, hi1, hi2, hi3, hi4, hi5, hi6, hi7, hit, hir, him, hin⟩ := hI
  refine ⟨hi0, hi1, hi2, hi3, hi4, hi5, hi6, hi7, fun g g0 g1 => ?_, hir, him, hin⟩
  have a := hit g g0 g1
  refine ⟨a.1, ?_, a.2.2⟩
  show 0 ≤ ur Y.2 1 f h 1 g ∧ ur Y.2 1 f h 1 g ≤ 9
  rw [ur_c]
  split
  · exact hh
  · exact a.2.1
theorem FD_cong {g g' : Int → Int} {nd n z : Int} (h : FD g nd n z) (e : ∀ k : Int, 0 ≤ k → k < n → g k = g' k) : FD g' nd n z := by
  rcases h with ⟨a, b⟩ | ⟨a0, a1, a2, a3⟩
  · exact Or.inl ⟨a, fun k k0 k1 => by rw [← e k k0 k1]; exact b k k0 k1⟩
  · exact Or.inr ⟨a0, a1, by rw [← e z a0 a1]; exact a2, fun k k0 k1 => by rw [← e k k0 (by omega)]; exact a3 k k0 k1⟩
end
section
set_option maxHeartbeats 4000000 in
set_option maxRecDepth 100000 in
theorem c_X6_ofTap {ad : Nat → Nat} {ta sa ca : Int → Nat} {D : va_G} {cI cT cS : ClassId} (st : Sg) (Y : Sg) (f : Int) (x : Int) (hA : Ag st Y) (hI : Inv Y) (i_f : -2147483648 ≤ f ∧ f < 2147483648) (i_x : -2147483648 ≤ x ∧ x < 2147483648) : MC (xw ad ta sa ca D cI cT cS) yX6_ofTap cX6_ofTap 4 (some .int) { frames := 1, cells := 0, slots := 0, locals := 21 } [.ref (ad 0), .int (iI f), .int (iI x)] st (fun rv u => rv = some (.int (iI (OT Y f x))) ∧ u = st) := by
  refine MC_intro RX6 (by decide) rfl (Nat.le_of_ble_eq_true rfl) ?_
  intro G H0 m hE hR
  refine k_lo [0, 1, 2] (lo' := [(0, .ref (ad 0)), (1, .int (iI f)), (2, .int (iI x))]) rfl ?_
  obtain ⟨hi0, hi1, hi2, hi3, hi4, hi5, hi6, hi7, hit, hir, him, hin⟩ := id hI
  refine k_aload_n hE dX6_ofTap_0 0 rfl rfl ?_
  refine k_iload_n hE dX6_ofTap_1 1 rfl rfl ?_
  refine k_callV hE (c_X6_noTap st Y f hA hI (by omega)) mf_X6_noTap ml_X6_79 0 rfl rfl rfl rfl ⟨rfl, rfl, Nat.le_of_ble_eq_true rfl, Nat.le_of_ble_eq_true rfl⟩ [] (Nat.le_of_ble_eq_true rfl) dX6_ofTap_2 rfl (fun rv u hp => ?_)
  obtain ⟨z1, hv2, hu2, hz_2⟩ := hp
  refine k_sk (sk' := [.int (iI z1)]) (by rw [hv2]; rfl) ?_
  refine k_st st hu2 ?_
  refine k_if_eq hE 10 dX6_ofTap_5 (by decide) (by unfold in32; omega) (fun c5 => ?_) (fun c5 => ?_)
  · refine k_aload_n hE dX6_ofTap_10 0 rfl rfl ?_
    refine x_get_X6_yard hE fl_X6_12 dX6_ofTap_11 ?_
    refine x_get_X5_taps hE fl_X6_82 dX6_ofTap_14 ?_
    refine k_iload_n hE dX6_ofTap_17 1 rfl rfl ?_
    refine x_ld_taps hE (i := f) (by omega) (by omega) dX6_ofTap_18 ?_
    refine k_astore_n hE dX6_ofTap_19 [1, 2, 3, 0] rfl (Nat.le_of_ble_eq_true rfl) (lo' := [(0, .ref (ad 0)), (1, .int (iI f)), (2, .int (iI x)), (3, .ref (ta f))]) rfl ?_
    refine k_iload_n hE dX6_ofTap_20 2 rfl rfl ?_
    by_cases q21 : x < 0 ∨ 4 < x
    · refine k_tabOut hE 81 dX6_ofTap_21 (by unfold in32; omega) q21 (by decide) ?_
      refine k_bipush hE dX6_ofTap_81 rfl ?_
      exact k_iret hR dX6_ofTap_83 rfl ⟨ret_i (by unfold OT; (repeat (first | omega | split))), rfl⟩
    rcases (show x = 0 ∨ x = 1 ∨ x = 2 ∨ x = 3 ∨ x = 4 by omega) with s21 | s21 | s21 | s21 | s21
    · refine k_tabIn hE 56 0 dX6_ofTap_21 s21 (by decide) (by decide) rfl (by decide) ?_
      refine k_aload_n hE dX6_ofTap_56 3 rfl rfl ?_
      refine x_get_X3_kind hE (z := Y.2 0 f) (by omega) (by omega) (congrFun (hA.2 0 (by decide)) f) fl_X6_86 dX6_ofTap_57 ?_
      exact k_iret hR dX6_ofTap_60 rfl ⟨ret_i (by unfold OT; (repeat (first | omega | split))), rfl⟩
    · refine k_tabIn hE 61 1 dX6_ofTap_21 s21 (by decide) (by decide) rfl (by decide) ?_
      refine k_aload_n hE dX6_ofTap_61 3 rfl rfl ?_
      refine x_get_X3_height hE (z := Y.2 1 f) (by omega) (by omega) (congrFun (hA.2 1 (by decide)) f) fl_X6_91 dX6_ofTap_62 ?_
      exact k_iret hR dX6_ofTap_65 rfl ⟨ret_i (by unfold OT; (repeat (first | omega | split))), rfl⟩
    · refine k_tabIn hE 66 2 dX6_ofTap_21 s21 (by decide) (by decide) rfl (by decide) ?_
      refine k_aload_n hE dX6_ofTap_66 3 rfl rfl ?_
      refine x_get_X3_need hE (z := Y.2 2 f) (by omega) (by omega) (congrFun (hA.2 2 (by decide)) f) fl_X6_94 dX6_ofTap_67 ?_
      exact k_iret hR dX6_ofTap_70 rfl ⟨ret_i (by unfold OT; (repeat (first | omega | split))), rfl⟩
    · refine k_tabIn hE 71 3 dX6_ofTap_21 s21 (by decide) (by decide) rfl (by decide) ?_
      refine k_aload_n hE dX6_ofTap_71 3 rfl rfl ?_
      refine x_get_X3_speed hE (z := Y.2 3 f) (by omega) (by omega) (congrFun (hA.2 3 (by decide)) f) fl_X6_97 dX6_ofTap_72 ?_
      exact k_iret hR dX6_ofTap_75 rfl ⟨ret_i (by unfold OT; (repeat (first | omega | split))), rfl⟩
    · refine k_tabIn hE 76 4 dX6_ofTap_21 s21 (by decide) (by decide) rfl (by decide) ?_
      refine k_aload_n hE dX6_ofTap_76 3 rfl rfl ?_
      refine k_callV hE (c_X3_wants st Y f hA hI (by omega) (by omega)) mf_X3_wants ml_X6_100 (13 + Int.toNat f) (xW_tap (by omega) (by omega)) rfl rfl rfl ⟨rfl, rfl, Nat.le_of_ble_eq_true rfl, Nat.le_of_ble_eq_true rfl⟩ [] (Nat.le_of_ble_eq_true rfl) dX6_ofTap_77 rfl (fun rv u hp => ?_)
      obtain ⟨hv77, hu77⟩ := hp
      refine k_sk (sk' := [.int (iI (WN Y f))]) (by rw [hv77]; rfl) ?_
      refine k_st st hu77 ?_
      exact k_iret hR dX6_ofTap_80 rfl ⟨ret_i (by unfold OT; (repeat (first | omega | split))), rfl⟩
  · refine k_iconst hE dX6_ofTap_8 ?_
    exact k_iret hR dX6_ofTap_9 rfl ⟨ret_i (by unfold OT; (repeat (first | omega | split))), rfl⟩

set_option maxHeartbeats 4000000 in
set_option maxRecDepth 100000 in
theorem c_X6_bore {ad : Nat → Nat} {ta sa ca : Int → Nat} {D : va_G} {cI cT cS : ClassId} (st : Sg) (Y : Sg) (f : Int) (h : Int) (hA : Ag st Y) (hI : Inv Y) (i_f : -2147483648 ≤ f ∧ f < 2147483648) (i_h : -2147483648 ≤ h ∧ h < 2147483648) : MC (xw ad ta sa ca D cI cT cS) yX6_bore cX6_bore 4 (some .int) { frames := 1, cells := 0, slots := 0, locals := 22 } [.ref (ad 0), .int (iI f), .int (iI h)] st (fun rv u => ∃ z : Int, ∃ S : Sg, rv = some (.int (iI (z))) ∧ u = S ∧ (((f < 0 ∨ Y.1 0 ≤ f) ∧ z = -1 ∧ S = st) ∨ (¬ (f < 0 ∨ Y.1 0 ≤ f) ∧ (h < 0 ∨ 9 < h) ∧ z = -2 ∧ S = st) ∨ (¬ (f < 0 ∨ Y.1 0 ≤ f) ∧ ¬ (h < 0 ∨ 9 < h) ∧ z = Y.2 1 f ∧ S = (st.1, ur st.2 1 f h)))) := by
  refine MC_intro RX6 (by decide) rfl (Nat.le_of_ble_eq_true rfl) ?_
  intro G H0 m hE hR
  refine k_lo [0, 1, 2] (lo' := [(0, .ref (ad 0)), (1, .int (iI f)), (2, .int (iI h))]) rfl ?_
  obtain ⟨hi0, hi1, hi2, hi3, hi4, hi5, hi6, hi7, hit, hir, him, hin⟩ := id hI
  refine k_aload_n hE dX6_bore_0 0 rfl rfl ?_
  refine k_iload_n hE dX6_bore_1 1 rfl rfl ?_
  refine k_callV hE (c_X6_noTap st Y f hA hI (by omega)) mf_X6_noTap ml_X6_79 0 rfl rfl rfl rfl ⟨rfl, rfl, Nat.le_of_ble_eq_true rfl, Nat.le_of_ble_eq_true rfl⟩ [] (Nat.le_of_ble_eq_true rfl) dX6_bore_2 rfl (fun rv u hp => ?_)
  obtain ⟨z1, hv2, hu2, hz_2⟩ := hp
  refine k_sk (sk' := [.int (iI z1)]) (by rw [hv2]; rfl) ?_
  refine k_st st hu2 ?_
  refine k_if_eq hE 10 dX6_bore_5 (by decide) (by unfold in32; omega) (fun c5 => ?_) (fun c5 => ?_)
  · refine k_iconst hE dX6_bore_10 ?_
    refine k_iload_n hE dX6_bore_11 2 rfl rfl ?_
    refine k_bipush hE dX6_bore_12 rfl ?_
    refine k_callS hE (c_X6_isNot st 0 h 9 (by omega) (by omega) (by omega)) ms_X6_isNot ml_X6_104 rfl ⟨rfl, rfl, Nat.le_of_ble_eq_true rfl, Nat.le_of_ble_eq_true rfl⟩ [] (Nat.le_of_ble_eq_true rfl) dX6_bore_14 rfl (fun rv u hp => ?_)
    obtain ⟨z2, hv14, hu14, hz_14⟩ := hp
    refine k_sk (sk' := [.int (iI z2)]) (by rw [hv14]; rfl) ?_
    refine k_st st hu14 ?_
    refine k_if_eq hE 23 dX6_bore_17 (by decide) (by unfold in32; omega) (fun c17 => ?_) (fun c17 => ?_)
    · refine k_aload_n hE dX6_bore_23 0 rfl rfl ?_
      refine x_get_X6_yard hE fl_X6_12 dX6_bore_24 ?_
      refine x_get_X5_taps hE fl_X6_82 dX6_bore_27 ?_
      refine k_iload_n hE dX6_bore_30 1 rfl rfl ?_
      refine x_ld_taps hE (i := f) (by omega) (by omega) dX6_bore_31 ?_
      refine x_get_X3_height hE (z := Y.2 1 f) (by omega) (by omega) (congrFun (hA.2 1 (by decide)) f) fl_X6_91 dX6_bore_32 ?_
      refine k_istore_n hE dX6_bore_35 [1, 2, 3, 0] rfl (Nat.le_of_ble_eq_true rfl) (lo' := [(0, .ref (ad 0)), (1, .int (iI f)), (2, .int (iI h)), (3, .int (iI (Y.2 1 f)))]) rfl ?_
      refine k_aload_n hE dX6_bore_36 0 rfl rfl ?_
      refine x_get_X6_yard hE fl_X6_12 dX6_bore_37 ?_
      refine x_get_X5_taps hE fl_X6_82 dX6_bore_40 ?_
      refine k_iload_n hE dX6_bore_43 1 rfl rfl ?_
      refine x_ld_taps hE (i := f) (by omega) (by omega) dX6_bore_44 ?_
      refine k_iload_n hE dX6_bore_45 2 rfl rfl ?_
      refine x_put_X3_height hE (by omega) (by omega) fl_X6_91 dX6_bore_46 ?_
      refine k_st ((st.1, ur st.2 1 f h)) rfl ?_
      refine k_iload_n hE dX6_bore_49 3 rfl rfl ?_
      exact k_iret hR dX6_bore_50 rfl ⟨_, _, rfl, rfl, Or.inr (Or.inr ⟨by omega, by omega, rfl, rfl⟩)⟩
    · refine k_bipush hE dX6_bore_20 rfl ?_
      exact k_iret hR dX6_bore_22 rfl ⟨_, _, rfl, rfl, Or.inr (Or.inl ⟨by omega, by omega, rfl, rfl⟩)⟩
  · refine k_iconst hE dX6_bore_8 ?_
    exact k_iret hR dX6_bore_9 rfl ⟨_, _, rfl, rfl, Or.inl ⟨by omega, rfl, rfl⟩⟩

set_option maxHeartbeats 4000000 in
set_option maxRecDepth 100000 in
theorem c_X6_begin {ad : Nat → Nat} {ta sa ca : Int → Nat} {D : va_G} {cI cT cS : ClassId} (st : Sg) (Y : Sg) (v : Int) (hA : Ag st Y) (hI : Inv Y) (i_v : -2147483648 ≤ v ∧ v < 2147483648) : MC (xw ad ta sa ca D cI cT cS) yX6_begin cX6_begin 3 (some .int) { frames := 1, cells := 0, slots := 0, locals := 22 } [.ref (ad 0), .int (iI v)] st (fun rv u => ∃ z : Int, ∃ S : Sg, rv = some (.int (iI (z))) ∧ u = S ∧ ((Y.1 0 = 0 ∧ z = -3 ∧ S = st) ∨ (Y.1 0 ≠ 0 ∧ (v < 0 ∨ Y.1 1 < v) ∧ z = -2 ∧ S = st) ∨ (Y.1 0 ≠ 0 ∧ ¬ (v < 0 ∨ Y.1 1 < v) ∧ z = Y.1 3 ∧ S = (uv st.1 3 v, st.2)))) := by
  refine MC_intro RX6 (by decide) rfl (Nat.le_of_ble_eq_true rfl) ?_
  intro G H0 m hE hR
  refine k_lo [0, 1] (lo' := [(0, .ref (ad 0)), (1, .int (iI v))]) rfl ?_
  obtain ⟨hi0, hi1, hi2, hi3, hi4, hi5, hi6, hi7, hit, hir, him, hin⟩ := id hI
  refine k_aload_n hE dX6_begin_0 0 rfl rfl ?_
  refine k_callV hE (c_X6_noYard st Y hA hI) mf_X6_noYard ml_X6_108 0 rfl rfl rfl rfl ⟨rfl, rfl, Nat.le_of_ble_eq_true rfl, Nat.le_of_ble_eq_true rfl⟩ [] (Nat.le_of_ble_eq_true rfl) dX6_begin_1 rfl (fun rv u hp => ?_)
  obtain ⟨z1, hv1, hu1, hz_1⟩ := hp
  refine k_sk (sk' := [.int (iI z1)]) (by rw [hv1]; rfl) ?_
  refine k_st st hu1 ?_
  refine k_if_eq hE 10 dX6_begin_4 (by decide) (by unfold in32; omega) (fun c4 => ?_) (fun c4 => ?_)
  · refine k_iconst hE dX6_begin_10 ?_
    refine k_iload_n hE dX6_begin_11 1 rfl rfl ?_
    refine k_aload_n hE dX6_begin_12 0 rfl rfl ?_
    refine x_get_X6_yard hE fl_X6_12 dX6_begin_13 ?_
    refine x_get_X5_cap hE (z := Y.1 1) (hA.1 1 (by decide)) fl_X6_112 dX6_begin_16 ?_
    refine k_callS hE (c_X6_isNot st 0 v (Y.1 1) (by omega) (by omega) (by omega)) ms_X6_isNot ml_X6_104 rfl ⟨rfl, rfl, Nat.le_of_ble_eq_true rfl, Nat.le_of_ble_eq_true rfl⟩ [] (Nat.le_of_ble_eq_true rfl) dX6_begin_19 rfl (fun rv u hp => ?_)
    obtain ⟨z2, hv19, hu19, hz_19⟩ := hp
    refine k_sk (sk' := [.int (iI z2)]) (by rw [hv19]; rfl) ?_
    refine k_st st hu19 ?_
    refine k_if_eq hE 28 dX6_begin_22 (by decide) (by unfold in32; omega) (fun c22 => ?_) (fun c22 => ?_)
    · refine k_aload_n hE dX6_begin_28 0 rfl rfl ?_
      refine x_get_X6_yard hE fl_X6_12 dX6_begin_29 ?_
      refine x_get_X5_firstWater hE (z := Y.1 3) (hA.1 3 (by decide)) fl_X6_115 dX6_begin_32 ?_
      refine k_istore_n hE dX6_begin_35 [1, 2, 0] rfl (Nat.le_of_ble_eq_true rfl) (lo' := [(0, .ref (ad 0)), (1, .int (iI v)), (2, .int (iI (Y.1 3)))]) rfl ?_
      refine k_aload_n hE dX6_begin_36 0 rfl rfl ?_
      refine x_get_X6_yard hE fl_X6_12 dX6_begin_37 ?_
      refine k_iload_n hE dX6_begin_40 1 rfl rfl ?_
      refine x_put_X5_firstWater hE fl_X6_115 dX6_begin_41 ?_
      refine k_st ((uv st.1 3 v, st.2)) rfl ?_
      refine k_iload_n hE dX6_begin_44 2 rfl rfl ?_
      exact k_iret hR dX6_begin_45 rfl ⟨_, _, rfl, rfl, Or.inr (Or.inr ⟨by omega, by omega, rfl, rfl⟩)⟩
    · refine k_bipush hE dX6_begin_25 rfl ?_
      exact k_iret hR dX6_begin_27 rfl ⟨_, _, rfl, rfl, Or.inr (Or.inl ⟨by omega, by omega, rfl, rfl⟩)⟩
  · refine k_bipush hE dX6_begin_7 rfl ?_
    exact k_iret hR dX6_begin_9 rfl ⟨_, _, rfl, rfl, Or.inl ⟨by omega, rfl, rfl⟩⟩

set_option maxHeartbeats 4000000 in
set_option maxRecDepth 100000 in
theorem c_X6_rain {ad : Nat → Nat} {ta sa ca : Int → Nat} {D : va_G} {cI cT cS : ClassId} (st : Sg) (Y : Sg) (d : Int) (v : Int) (hA : Ag st Y) (hI : Inv Y) (i_d : -2147483648 ≤ d ∧ d < 2147483648) (i_v : -2147483648 ≤ v ∧ v < 2147483648) : MC (xw ad ta sa ca D cI cT cS) yX6_rain cX6_rain 4 (some .int) { frames := 2, cells := 0, slots := 0, locals := 42 } [.ref (ad 0), .int (iI d), .int (iI v)] st (fun rv u => ∃ z : Int, ∃ S : Sg, rv = some (.int (iI (z))) ∧ u = S ∧ (((d < 0 ∨ 9 < d) ∧ z = -1 ∧ S = st) ∨ (¬ (d < 0 ∨ 9 < d) ∧ (v < 0 ∨ 99 < v) ∧ z = -2 ∧ S = st) ∨ (¬ (d < 0 ∨ 9 < d) ∧ ¬ (v < 0 ∨ 99 < v) ∧ Y.1 0 = 0 ∧ z = -3 ∧ S = st) ∨ (¬ (d < 0 ∨ 9 < d) ∧ ¬ (v < 0 ∨ 99 < v) ∧ Y.1 0 ≠ 0 ∧ z = Y.2 4 d ∧ S = (st.1, ur st.2 4 d v)))) := by
  refine MC_intro RX6 (by decide) rfl (Nat.le_of_ble_eq_true rfl) ?_
  intro G H0 m hE hR
  refine k_lo [0, 1, 2] (lo' := [(0, .ref (ad 0)), (1, .int (iI d)), (2, .int (iI v))]) rfl ?_
  obtain ⟨hi0, hi1, hi2, hi3, hi4, hi5, hi6, hi7, hit, hir, him, hin⟩ := id hI
  refine k_iload_n hE dX6_rain_0 1 rfl rfl ?_
  refine k_callS hE (c_X6_noDay st d (by omega)) ms_X6_noDay ml_X6_118 rfl ⟨rfl, rfl, Nat.le_of_ble_eq_true rfl, Nat.le_of_ble_eq_true rfl⟩ [] (Nat.le_of_ble_eq_true rfl) dX6_rain_1 rfl (fun rv u hp => ?_)
  obtain ⟨z1, hv1, hu1, hz_1⟩ := hp
  refine k_sk (sk' := [.int (iI z1)]) (by rw [hv1]; rfl) ?_
  refine k_st st hu1 ?_
  refine k_if_eq hE 9 dX6_rain_4 (by decide) (by unfold in32; omega) (fun c4 => ?_) (fun c4 => ?_)
  · refine k_iconst hE dX6_rain_9 ?_
    refine k_iload_n hE dX6_rain_10 2 rfl rfl ?_
    refine k_bipush hE dX6_rain_11 rfl ?_
    refine k_callS hE (c_X6_isNot st 0 v 99 (by omega) (by omega) (by omega)) ms_X6_isNot ml_X6_104 rfl ⟨rfl, rfl, Nat.le_of_ble_eq_true rfl, Nat.le_of_ble_eq_true rfl⟩ [] (Nat.le_of_ble_eq_true rfl) dX6_rain_13 rfl (fun rv u hp => ?_)
    obtain ⟨z2, hv13, hu13, hz_13⟩ := hp
    refine k_sk (sk' := [.int (iI z2)]) (by rw [hv13]; rfl) ?_
    refine k_st st hu13 ?_
    refine k_if_eq hE 22 dX6_rain_16 (by decide) (by unfold in32; omega) (fun c16 => ?_) (fun c16 => ?_)
    · refine k_aload_n hE dX6_rain_22 0 rfl rfl ?_
      refine k_callV hE (c_X6_noYard st Y hA hI) mf_X6_noYard ml_X6_108 0 rfl rfl rfl rfl ⟨rfl, rfl, Nat.le_of_ble_eq_true rfl, Nat.le_of_ble_eq_true rfl⟩ [] (Nat.le_of_ble_eq_true rfl) dX6_rain_23 rfl (fun rv u hp => ?_)
      obtain ⟨z3, hv23, hu23, hz_23⟩ := hp
      refine k_sk (sk' := [.int (iI z3)]) (by rw [hv23]; rfl) ?_
      refine k_st st hu23 ?_
      refine k_if_eq hE 32 dX6_rain_26 (by decide) (by unfold in32; omega) (fun c26 => ?_) (fun c26 => ?_)
      · refine k_aload_n hE dX6_rain_32 0 rfl rfl ?_
        refine x_get_X6_yard hE fl_X6_12 dX6_rain_33 ?_
        refine x_get_X5_rainOn hE fl_X6_121 dX6_rain_36 ?_
        refine k_iload_n hE dX6_rain_39 1 rfl rfl ?_
        refine x_ld_rainOn hE (z := Y.2 4 d) (by omega) (by omega) (congrFun (hA.2 4 (by decide)) d) dX6_rain_40 ?_
        refine k_istore_n hE dX6_rain_41 [1, 2, 3, 0] rfl (Nat.le_of_ble_eq_true rfl) (lo' := [(0, .ref (ad 0)), (1, .int (iI d)), (2, .int (iI v)), (3, .int (iI (Y.2 4 d)))]) rfl ?_
        refine k_aload_n hE dX6_rain_42 0 rfl rfl ?_
        refine x_get_X6_yard hE fl_X6_12 dX6_rain_43 ?_
        refine x_get_X5_rainOn hE fl_X6_121 dX6_rain_46 ?_
        refine k_iload_n hE dX6_rain_49 1 rfl rfl ?_
        refine k_iload_n hE dX6_rain_50 2 rfl rfl ?_
        refine x_st_rainOn hE (by omega) (by omega) dX6_rain_51 ?_
        refine k_st ((st.1, ur st.2 4 d v)) rfl ?_
        refine k_iload_n hE dX6_rain_52 3 rfl rfl ?_
        exact k_iret hR dX6_rain_53 rfl ⟨_, _, rfl, rfl, Or.inr (Or.inr (Or.inr ⟨by omega, by omega, by omega, rfl, rfl⟩))⟩
      · refine k_bipush hE dX6_rain_29 rfl ?_
        exact k_iret hR dX6_rain_31 rfl ⟨_, _, rfl, rfl, Or.inr (Or.inr (Or.inl ⟨by omega, by omega, by omega, rfl, rfl⟩))⟩
    · refine k_bipush hE dX6_rain_19 rfl ?_
      exact k_iret hR dX6_rain_21 rfl ⟨_, _, rfl, rfl, Or.inr (Or.inl ⟨by omega, by omega, rfl, rfl⟩)⟩
  · refine k_iconst hE dX6_rain_7 ?_
    exact k_iret hR dX6_rain_8 rfl ⟨_, _, rfl, rfl, Or.inl ⟨by omega, rfl, rfl⟩⟩

set_option maxHeartbeats 4000000 in
set_option maxRecDepth 100000 in
theorem c_X6_law {ad : Nat → Nat} {ta sa ca : Int → Nat} {D : va_G} {cI cT cS : ClassId} (st : Sg) (Y : Sg) (v : Int) (hA : Ag st Y) (hI : Inv Y) (i_v : -2147483648 ≤ v ∧ v < 2147483648) : MC (xw ad ta sa ca D cI cT cS) yX6_law cX6_law 3 (some .int) { frames := 1, cells := 0, slots := 0, locals := 22 } [.ref (ad 0), .int (iI v)] st (fun rv u => ∃ z : Int, ∃ S : Sg, rv = some (.int (iI (z))) ∧ u = S ∧ (((v < 0 ∨ 2 < v) ∧ z = -2 ∧ S = st) ∨ (¬ (v < 0 ∨ 2 < v) ∧ Y.1 0 = 0 ∧ z = -3 ∧ S = st) ∨ (¬ (v < 0 ∨ 2 < v) ∧ Y.1 0 ≠ 0 ∧ z = Y.1 4 ∧ S = (uv st.1 4 v, st.2)))) := by
  refine MC_intro RX6 (by decide) rfl (Nat.le_of_ble_eq_true rfl) ?_
  intro G H0 m hE hR
  refine k_lo [0, 1] (lo' := [(0, .ref (ad 0)), (1, .int (iI v))]) rfl ?_
  obtain ⟨hi0, hi1, hi2, hi3, hi4, hi5, hi6, hi7, hit, hir, him, hin⟩ := id hI
  refine k_iconst hE dX6_law_0 ?_
  refine k_iload_n hE dX6_law_1 1 rfl rfl ?_
  refine k_iconst hE dX6_law_2 ?_
  refine k_callS hE (c_X6_isNot st 0 v 2 (by omega) (by omega) (by omega)) ms_X6_isNot ml_X6_104 rfl ⟨rfl, rfl, Nat.le_of_ble_eq_true rfl, Nat.le_of_ble_eq_true rfl⟩ [] (Nat.le_of_ble_eq_true rfl) dX6_law_3 rfl (fun rv u hp => ?_)
  obtain ⟨z1, hv3, hu3, hz_3⟩ := hp
  refine k_sk (sk' := [.int (iI z1)]) (by rw [hv3]; rfl) ?_
  refine k_st st hu3 ?_
  refine k_if_eq hE 12 dX6_law_6 (by decide) (by unfold in32; omega) (fun c6 => ?_) (fun c6 => ?_)
  · refine k_aload_n hE dX6_law_12 0 rfl rfl ?_
    refine k_callV hE (c_X6_noYard st Y hA hI) mf_X6_noYard ml_X6_108 0 rfl rfl rfl rfl ⟨rfl, rfl, Nat.le_of_ble_eq_true rfl, Nat.le_of_ble_eq_true rfl⟩ [] (Nat.le_of_ble_eq_true rfl) dX6_law_13 rfl (fun rv u hp => ?_)
    obtain ⟨z2, hv13, hu13, hz_13⟩ := hp
    refine k_sk (sk' := [.int (iI z2)]) (by rw [hv13]; rfl) ?_
    refine k_st st hu13 ?_
    refine k_if_eq hE 22 dX6_law_16 (by decide) (by unfold in32; omega) (fun c16 => ?_) (fun c16 => ?_)
    · refine k_aload_n hE dX6_law_22 0 rfl rfl ?_
      refine x_get_X6_yard hE fl_X6_12 dX6_law_23 ?_
      refine x_get_X5_rule hE (z := Y.1 4) (hA.1 4 (by decide)) fl_X6_125 dX6_law_26 ?_
      refine k_istore_n hE dX6_law_29 [1, 2, 0] rfl (Nat.le_of_ble_eq_true rfl) (lo' := [(0, .ref (ad 0)), (1, .int (iI v)), (2, .int (iI (Y.1 4)))]) rfl ?_
      refine k_aload_n hE dX6_law_30 0 rfl rfl ?_
      refine x_get_X6_yard hE fl_X6_12 dX6_law_31 ?_
      refine k_iload_n hE dX6_law_34 1 rfl rfl ?_
      refine x_put_X5_rule hE fl_X6_125 dX6_law_35 ?_
      refine k_st ((uv st.1 4 v, st.2)) rfl ?_
      refine k_iload_n hE dX6_law_38 2 rfl rfl ?_
      exact k_iret hR dX6_law_39 rfl ⟨_, _, rfl, rfl, Or.inr (Or.inr ⟨by omega, by omega, rfl, rfl⟩)⟩
    · refine k_bipush hE dX6_law_19 rfl ?_
      exact k_iret hR dX6_law_21 rfl ⟨_, _, rfl, rfl, Or.inr (Or.inl ⟨by omega, by omega, rfl, rfl⟩)⟩
  · refine k_bipush hE dX6_law_9 rfl ?_
    exact k_iret hR dX6_law_11 rfl ⟨_, _, rfl, rfl, Or.inl ⟨by omega, rfl, rfl⟩⟩

set_option maxHeartbeats 4000000 in
set_option maxRecDepth 100000 in
theorem c_X6_leak {ad : Nat → Nat} {ta sa ca : Int → Nat} {D : va_G} {cI cT cS : ClassId} (st : Sg) (Y : Sg) (h : Int) (v : Int) (hA : Ag st Y) (hI : Inv Y) (i_h : -2147483648 ≤ h ∧ h < 2147483648) (i_v : -2147483648 ≤ v ∧ v < 2147483648) : MC (xw ad ta sa ca D cI cT cS) yX6_leak cX6_leak 4 (some .int) { frames := 1, cells := 0, slots := 0, locals := 22 } [.ref (ad 0), .int (iI h), .int (iI v)] st (fun rv u => ∃ z : Int, ∃ S : Sg, rv = some (.int (iI (z))) ∧ u = S ∧ ((((h < 0 ∨ 9 < h) ∨ (v < 0 ∨ 9 < v)) ∧ z = -2 ∧ S = st) ∨ (¬ ((h < 0 ∨ 9 < h) ∨ (v < 0 ∨ 9 < v)) ∧ Y.1 0 = 0 ∧ z = -3 ∧ S = st) ∨ (¬ ((h < 0 ∨ 9 < h) ∨ (v < 0 ∨ 9 < v)) ∧ Y.1 0 ≠ 0 ∧ z = 10 * Y.1 5 + Y.1 6 ∧ S = (uv (uv st.1 5 h) 6 v, st.2)))) := by
  refine MC_intro RX6 (by decide) rfl (Nat.le_of_ble_eq_true rfl) ?_
  intro G H0 m hE hR
  refine k_lo [0, 1, 2] (lo' := [(0, .ref (ad 0)), (1, .int (iI h)), (2, .int (iI v))]) rfl ?_
  obtain ⟨hi0, hi1, hi2, hi3, hi4, hi5, hi6, hi7, hit, hir, him, hin⟩ := id hI
  refine k_iconst hE dX6_leak_0 ?_
  refine k_iload_n hE dX6_leak_1 1 rfl rfl ?_
  refine k_bipush hE dX6_leak_2 rfl ?_
  refine k_callS hE (c_X6_isNot st 0 h 9 (by omega) (by omega) (by omega)) ms_X6_isNot ml_X6_104 rfl ⟨rfl, rfl, Nat.le_of_ble_eq_true rfl, Nat.le_of_ble_eq_true rfl⟩ [] (Nat.le_of_ble_eq_true rfl) dX6_leak_4 rfl (fun rv u hp => ?_)
  obtain ⟨z1, hv4, hu4, hz_4⟩ := hp
  refine k_sk (sk' := [.int (iI z1)]) (by rw [hv4]; rfl) ?_
  refine k_st st hu4 ?_
  refine k_if_ne hE 20 dX6_leak_7 (by decide) (by unfold in32; omega) (fun c7 => ?_) (fun c7 => ?_)
  · refine k_bipush hE dX6_leak_20 rfl ?_
    exact k_iret hR dX6_leak_22 rfl ⟨_, _, rfl, rfl, Or.inl ⟨by omega, rfl, rfl⟩⟩
  · refine k_iconst hE dX6_leak_10 ?_
    refine k_iload_n hE dX6_leak_11 2 rfl rfl ?_
    refine k_bipush hE dX6_leak_12 rfl ?_
    refine k_callS hE (c_X6_isNot st 0 v 9 (by omega) (by omega) (by omega)) ms_X6_isNot ml_X6_104 rfl ⟨rfl, rfl, Nat.le_of_ble_eq_true rfl, Nat.le_of_ble_eq_true rfl⟩ [] (Nat.le_of_ble_eq_true rfl) dX6_leak_14 rfl (fun rv u hp => ?_)
    obtain ⟨z2, hv14, hu14, hz_14⟩ := hp
    refine k_sk (sk' := [.int (iI z2)]) (by rw [hv14]; rfl) ?_
    refine k_st st hu14 ?_
    refine k_if_eq hE 23 dX6_leak_17 (by decide) (by unfold in32; omega) (fun c17 => ?_) (fun c17 => ?_)
    · refine k_aload_n hE dX6_leak_23 0 rfl rfl ?_
      refine k_callV hE (c_X6_noYard st Y hA hI) mf_X6_noYard ml_X6_108 0 rfl rfl rfl rfl ⟨rfl, rfl, Nat.le_of_ble_eq_true rfl, Nat.le_of_ble_eq_true rfl⟩ [] (Nat.le_of_ble_eq_true rfl) dX6_leak_24 rfl (fun rv u hp => ?_)
      obtain ⟨z3, hv24, hu24, hz_24⟩ := hp
      refine k_sk (sk' := [.int (iI z3)]) (by rw [hv24]; rfl) ?_
      refine k_st st hu24 ?_
      refine k_if_eq hE 33 dX6_leak_27 (by decide) (by unfold in32; omega) (fun c27 => ?_) (fun c27 => ?_)
      · refine k_bipush hE dX6_leak_33 rfl ?_
        refine k_aload_n hE dX6_leak_35 0 rfl rfl ?_
        refine x_get_X6_yard hE fl_X6_12 dX6_leak_36 ?_
        refine x_get_X5_leakHeight hE (z := Y.1 5) (hA.1 5 (by decide)) fl_X6_128 dX6_leak_39 ?_
        refine k_imul hE dX6_leak_42 ?_
        refine k_aload_n hE dX6_leak_43 0 rfl rfl ?_
        refine x_get_X6_yard hE fl_X6_12 dX6_leak_44 ?_
        refine x_get_X5_leakPails hE (z := Y.1 6) (hA.1 6 (by decide)) fl_X6_131 dX6_leak_47 ?_
        refine k_iadd hE dX6_leak_50 ?_
        refine k_istore_n hE dX6_leak_51 [1, 2, 3, 0] rfl (Nat.le_of_ble_eq_true rfl) (lo' := [(0, .ref (ad 0)), (1, .int (iI h)), (2, .int (iI v)), (3, .int (iI ((10 * (Y.1 5)) + (Y.1 6))))]) rfl ?_
        refine k_aload_n hE dX6_leak_52 0 rfl rfl ?_
        refine x_get_X6_yard hE fl_X6_12 dX6_leak_53 ?_
        refine k_iload_n hE dX6_leak_56 1 rfl rfl ?_
        refine x_put_X5_leakHeight hE fl_X6_128 dX6_leak_57 ?_
        refine k_st ((uv st.1 5 h, st.2)) rfl ?_
        refine k_aload_n hE dX6_leak_60 0 rfl rfl ?_
        refine x_get_X6_yard hE fl_X6_12 dX6_leak_61 ?_
        refine k_iload_n hE dX6_leak_64 2 rfl rfl ?_
        refine x_put_X5_leakPails hE fl_X6_131 dX6_leak_65 ?_
        refine k_st ((uv (uv st.1 5 h) 6 v, st.2)) rfl ?_
        refine k_iload_n hE dX6_leak_68 3 rfl rfl ?_
        exact k_iret hR dX6_leak_69 rfl ⟨_, _, rfl, rfl, Or.inr (Or.inr ⟨by omega, by omega, rfl, rfl⟩)⟩
      · refine k_bipush hE dX6_leak_30 rfl ?_
        exact k_iret hR dX6_leak_32 rfl ⟨_, _, rfl, rfl, Or.inr (Or.inl ⟨by omega, by omega, rfl, rfl⟩)⟩
    · refine k_bipush hE dX6_leak_20 rfl ?_
      exact k_iret hR dX6_leak_22 rfl ⟨_, _, rfl, rfl, Or.inl ⟨by omega, rfl, rfl⟩⟩

set_option maxHeartbeats 4000000 in
set_option maxRecDepth 100000 in
theorem c_X6_got {ad : Nat → Nat} {ta sa ca : Int → Nat} {D : va_G} {cI cT cS : ClassId} (st : Sg) (Y : Sg) (f : Int) (d : Int) (hA : Ag st Y) (hI : Inv Y) (i_f : -2147483648 ≤ f ∧ f < 2147483648) (i_d : -2147483648 ≤ d ∧ d < 2147483648) : MC (xw ad ta sa ca D cI cT cS) yX6_got cX6_got 3 (some .int) { frames := 6, cells := 0, slots := 0, locals := 145 } [.ref (ad 0), .int (iI f), .int (iI d)] st (fun rv u => ∃ S : Sg, rv = some (.int (iI (GT Y f d))) ∧ u = S ∧ (XS st S)) := by
  refine MC_intro RX6 (by decide) rfl (Nat.le_of_ble_eq_true rfl) ?_
  intro G H0 m hE hR
  refine k_lo [0, 1, 2] (lo' := [(0, .ref (ad 0)), (1, .int (iI f)), (2, .int (iI d))]) rfl ?_
  obtain ⟨hi0, hi1, hi2, hi3, hi4, hi5, hi6, hi7, hit, hir, him, hin⟩ := id hI
  refine k_aload_n hE dX6_got_0 0 rfl rfl ?_
  refine k_iload_n hE dX6_got_1 1 rfl rfl ?_
  refine k_callV hE (c_X6_noTap st Y f hA hI (by omega)) mf_X6_noTap ml_X6_79 0 rfl rfl rfl rfl ⟨rfl, rfl, Nat.le_of_ble_eq_true rfl, Nat.le_of_ble_eq_true rfl⟩ [] (Nat.le_of_ble_eq_true rfl) dX6_got_2 rfl (fun rv u hp => ?_)
  obtain ⟨z1, hv2, hu2, hz_2⟩ := hp
  refine k_sk (sk' := [.int (iI z1)]) (by rw [hv2]; rfl) ?_
  refine k_st st hu2 ?_
  refine k_if_ne hE 15 dX6_got_5 (by decide) (by unfold in32; omega) (fun c5 => ?_) (fun c5 => ?_)
  · refine k_iconst hE dX6_got_15 ?_
    exact k_iret hR dX6_got_16 rfl ⟨st, ret_i (by unfold GT; (repeat (first | omega | split))), rfl, XS.refl st⟩
  · refine k_iload_n hE dX6_got_8 2 rfl rfl ?_
    refine k_callS hE (c_X6_noDay st d (by omega)) ms_X6_noDay ml_X6_118 rfl ⟨rfl, rfl, Nat.le_of_ble_eq_true rfl, Nat.le_of_ble_eq_true rfl⟩ [] (Nat.le_of_ble_eq_true rfl) dX6_got_9 rfl (fun rv u hp => ?_)
    obtain ⟨z2, hv9, hu9, hz_9⟩ := hp
    refine k_sk (sk' := [.int (iI z2)]) (by rw [hv9]; rfl) ?_
    refine k_st st hu9 ?_
    refine k_if_eq hE 17 dX6_got_12 (by decide) (by unfold in32; omega) (fun c12 => ?_) (fun c12 => ?_)
    · refine k_aload_n hE dX6_got_17 0 rfl rfl ?_
      refine k_iload_n hE dX6_got_18 2 rfl rfl ?_
      refine k_iconst hE dX6_got_19 ?_
      refine k_iadd hE dX6_got_20 ?_
      refine k_callV hE (c_X6_passAsTold st Y (d + 1) hA hI (by omega)) mf_X6_passAsTold ml_X6_134 0 rfl rfl rfl rfl ⟨rfl, rfl, Nat.le_of_ble_eq_true rfl, Nat.le_of_ble_eq_true rfl⟩ [] (Nat.le_of_ble_eq_true rfl) dX6_got_21 rfl (fun rv u hp => ?_)
      obtain ⟨S1, hv21, hu21, hx_21, hr_21, hO_21, er_21⟩ := hp
      refine k_sk (sk' := []) (by rw [hv21]; rfl) ?_
      refine k_st S1 hu21 ?_
      have hB : Ag S1 Y := hx_21.ag hA
      refine k_aload_n hE dX6_got_24 0 rfl rfl ?_
      refine x_get_X6_days hE fl_X6_23 dX6_got_25 ?_
      refine k_iload_n hE dX6_got_28 1 rfl rfl ?_
      refine k_iload_n hE dX6_got_29 2 rfl rfl ?_
      refine k_callV hE (c_X0_drawnBy S1 f d (by omega) (by omega) (by omega)) mf_X0_drawnBy ml_X6_138 4 rfl rfl rfl rfl ⟨rfl, rfl, Nat.le_of_ble_eq_true rfl, Nat.le_of_ble_eq_true rfl⟩ [] (Nat.le_of_ble_eq_true rfl) dX6_got_30 rfl (fun rv u hp => ?_)
      obtain ⟨hv30, hu30⟩ := hp
      refine k_sk (sk' := [.int (iI (S1.2 11 (d * 6 + f)))]) (by rw [hv30]; rfl) ?_
      refine k_st S1 hu30 ?_
      exact k_iret hR dX6_got_33 rfl ⟨S1, ret_i (by unfold GT; rw [if_neg (by omega)]; exact (Ran_gD er_21 (by omega) (by omega) (by omega) (by omega)).1), rfl, hx_21⟩
    · refine k_iconst hE dX6_got_15 ?_
      exact k_iret hR dX6_got_16 rfl ⟨st, ret_i (by unfold GT; (repeat (first | omega | split))), rfl, XS.refl st⟩

set_option maxHeartbeats 4000000 in
set_option maxRecDepth 100000 in
theorem c_X6_level {ad : Nat → Nat} {ta sa ca : Int → Nat} {D : va_G} {cI cT cS : ClassId} (st : Sg) (Y : Sg) (d : Int) (hA : Ag st Y) (hI : Inv Y) (i_d : -2147483648 ≤ d ∧ d < 2147483648) : MC (xw ad ta sa ca D cI cT cS) yX6_level cX6_level 2 (some .int) { frames := 6, cells := 0, slots := 0, locals := 145 } [.ref (ad 0), .int (iI d)] st (fun rv u => ∃ S : Sg, rv = some (.int (iI (LE Y d))) ∧ u = S ∧ (XS st S)) := by
  refine MC_intro RX6 (by decide) rfl (Nat.le_of_ble_eq_true rfl) ?_
  intro G H0 m hE hR
  refine k_lo [0, 1] (lo' := [(0, .ref (ad 0)), (1, .int (iI d))]) rfl ?_
  obtain ⟨hi0, hi1, hi2, hi3, hi4, hi5, hi6, hi7, hit, hir, him, hin⟩ := id hI
  refine k_iconst hE dX6_level_0 ?_
  refine k_iload_n hE dX6_level_1 1 rfl rfl ?_
  refine k_bipush hE dX6_level_2 rfl ?_
  refine k_callS hE (c_X6_isNot st 0 d 10 (by omega) (by omega) (by omega)) ms_X6_isNot ml_X6_104 rfl ⟨rfl, rfl, Nat.le_of_ble_eq_true rfl, Nat.le_of_ble_eq_true rfl⟩ [] (Nat.le_of_ble_eq_true rfl) dX6_level_4 rfl (fun rv u hp => ?_)
  obtain ⟨z1, hv4, hu4, hz_4⟩ := hp
  refine k_sk (sk' := [.int (iI z1)]) (by rw [hv4]; rfl) ?_
  refine k_st st hu4 ?_
  refine k_if_eq hE 12 dX6_level_7 (by decide) (by unfold in32; omega) (fun c7 => ?_) (fun c7 => ?_)
  · refine k_aload_n hE dX6_level_12 0 rfl rfl ?_
    refine k_callV hE (c_X6_noYard st Y hA hI) mf_X6_noYard ml_X6_108 0 rfl rfl rfl rfl ⟨rfl, rfl, Nat.le_of_ble_eq_true rfl, Nat.le_of_ble_eq_true rfl⟩ [] (Nat.le_of_ble_eq_true rfl) dX6_level_13 rfl (fun rv u hp => ?_)
    obtain ⟨z2, hv13, hu13, hz_13⟩ := hp
    refine k_sk (sk' := [.int (iI z2)]) (by rw [hv13]; rfl) ?_
    refine k_st st hu13 ?_
    refine k_if_eq hE 22 dX6_level_16 (by decide) (by unfold in32; omega) (fun c16 => ?_) (fun c16 => ?_)
    · refine k_aload_n hE dX6_level_22 0 rfl rfl ?_
      refine k_iload_n hE dX6_level_23 1 rfl rfl ?_
      refine k_callV hE (c_X6_passAsTold st Y d hA hI (by omega)) mf_X6_passAsTold ml_X6_134 0 rfl rfl rfl rfl ⟨rfl, rfl, Nat.le_of_ble_eq_true rfl, Nat.le_of_ble_eq_true rfl⟩ [] (Nat.le_of_ble_eq_true rfl) dX6_level_24 rfl (fun rv u hp => ?_)
      obtain ⟨S1, hv24, hu24, hx_24, hr_24, hO_24, er_24⟩ := hp
      refine k_sk (sk' := []) (by rw [hv24]; rfl) ?_
      refine k_st S1 hu24 ?_
      have hB : Ag S1 Y := hx_24.ag hA
      refine k_aload_n hE dX6_level_27 0 rfl rfl ?_
      refine x_get_X6_days hE fl_X6_23 dX6_level_28 ?_
      refine x_get_X0_levels hE fl_X6_142 dX6_level_31 ?_
      refine k_iload_n hE dX6_level_34 1 rfl rfl ?_
      refine x_ld_levels hE (z := S1.2 9 d) (by omega) (by omega) rfl dX6_level_35 ?_
      exact k_iret hR dX6_level_36 rfl ⟨S1, ret_i (by unfold LE; rw [if_neg (by omega), if_neg (by omega)]; exact (Ran_lev er_24 (by omega) (by omega)).1), rfl, hx_24⟩
    · refine k_bipush hE dX6_level_19 rfl ?_
      exact k_iret hR dX6_level_21 rfl ⟨st, ret_i (by unfold LE; (repeat (first | omega | split))), rfl, XS.refl st⟩
  · refine k_iconst hE dX6_level_10 ?_
    exact k_iret hR dX6_level_11 rfl ⟨st, ret_i (by unfold LE; (repeat (first | omega | split))), rfl, XS.refl st⟩

set_option maxHeartbeats 4000000 in
set_option maxRecDepth 100000 in
theorem c_X6_over {ad : Nat → Nat} {ta sa ca : Int → Nat} {D : va_G} {cI cT cS : ClassId} (st : Sg) (Y : Sg) (d : Int) (hA : Ag st Y) (hI : Inv Y) (i_d : -2147483648 ≤ d ∧ d < 2147483648) : MC (xw ad ta sa ca D cI cT cS) yX6_over cX6_over 2 (some .int) { frames := 6, cells := 0, slots := 0, locals := 145 } [.ref (ad 0), .int (iI d)] st (fun rv u => ∃ S : Sg, rv = some (.int (iI (OV Y d))) ∧ u = S ∧ (XS st S)) := by
  refine MC_intro RX6 (by decide) rfl (Nat.le_of_ble_eq_true rfl) ?_
  intro G H0 m hE hR
  refine k_lo [0, 1] (lo' := [(0, .ref (ad 0)), (1, .int (iI d))]) rfl ?_
  obtain ⟨hi0, hi1, hi2, hi3, hi4, hi5, hi6, hi7, hit, hir, him, hin⟩ := id hI
  refine k_iload_n hE dX6_over_0 1 rfl rfl ?_
  refine k_callS hE (c_X6_noDay st d (by omega)) ms_X6_noDay ml_X6_118 rfl ⟨rfl, rfl, Nat.le_of_ble_eq_true rfl, Nat.le_of_ble_eq_true rfl⟩ [] (Nat.le_of_ble_eq_true rfl) dX6_over_1 rfl (fun rv u hp => ?_)
  obtain ⟨z1, hv1, hu1, hz_1⟩ := hp
  refine k_sk (sk' := [.int (iI z1)]) (by rw [hv1]; rfl) ?_
  refine k_st st hu1 ?_
  refine k_if_eq hE 9 dX6_over_4 (by decide) (by unfold in32; omega) (fun c4 => ?_) (fun c4 => ?_)
  · refine k_aload_n hE dX6_over_9 0 rfl rfl ?_
    refine k_callV hE (c_X6_noYard st Y hA hI) mf_X6_noYard ml_X6_108 0 rfl rfl rfl rfl ⟨rfl, rfl, Nat.le_of_ble_eq_true rfl, Nat.le_of_ble_eq_true rfl⟩ [] (Nat.le_of_ble_eq_true rfl) dX6_over_10 rfl (fun rv u hp => ?_)
    obtain ⟨z2, hv10, hu10, hz_10⟩ := hp
    refine k_sk (sk' := [.int (iI z2)]) (by rw [hv10]; rfl) ?_
    refine k_st st hu10 ?_
    refine k_if_eq hE 19 dX6_over_13 (by decide) (by unfold in32; omega) (fun c13 => ?_) (fun c13 => ?_)
    · refine k_aload_n hE dX6_over_19 0 rfl rfl ?_
      refine k_iload_n hE dX6_over_20 1 rfl rfl ?_
      refine k_iconst hE dX6_over_21 ?_
      refine k_iadd hE dX6_over_22 ?_
      refine k_callV hE (c_X6_passAsTold st Y (d + 1) hA hI (by omega)) mf_X6_passAsTold ml_X6_134 0 rfl rfl rfl rfl ⟨rfl, rfl, Nat.le_of_ble_eq_true rfl, Nat.le_of_ble_eq_true rfl⟩ [] (Nat.le_of_ble_eq_true rfl) dX6_over_23 rfl (fun rv u hp => ?_)
      obtain ⟨S1, hv23, hu23, hx_23, hr_23, hO_23, er_23⟩ := hp
      refine k_sk (sk' := []) (by rw [hv23]; rfl) ?_
      refine k_st S1 hu23 ?_
      have hB : Ag S1 Y := hx_23.ag hA
      refine k_aload_n hE dX6_over_26 0 rfl rfl ?_
      refine x_get_X6_days hE fl_X6_23 dX6_over_27 ?_
      refine x_get_X0_overs hE fl_X6_145 dX6_over_30 ?_
      refine k_iload_n hE dX6_over_33 1 rfl rfl ?_
      refine x_ld_overs hE (z := S1.2 10 d) (by omega) (by omega) rfl dX6_over_34 ?_
      exact k_iret hR dX6_over_35 rfl ⟨S1, ret_i (by unfold OV; rw [if_neg (by omega), if_neg (by omega)]; exact Ran_over er_23 (by omega) (by omega)), rfl, hx_23⟩
    · refine k_bipush hE dX6_over_16 rfl ?_
      exact k_iret hR dX6_over_18 rfl ⟨st, ret_i (by unfold OV; (repeat (first | omega | split))), rfl, XS.refl st⟩
  · refine k_iconst hE dX6_over_7 ?_
    exact k_iret hR dX6_over_8 rfl ⟨st, ret_i (by unfold OV; (repeat (first | omega | split))), rfl, XS.refl st⟩

set_option maxHeartbeats 4000000 in
set_option maxRecDepth 100000 in
theorem c_X6_nobody {ad : Nat → Nat} {ta sa ca : Int → Nat} {D : va_G} {cI cT cS : ClassId} (st : Sg) (Y : Sg) (d : Int) (hA : Ag st Y) (hI : Inv Y) (i_d : -2147483648 ≤ d ∧ d < 2147483648) : MC (xw ad ta sa ca D cI cT cS) yX6_nobody cX6_nobody 2 (some .int) { frames := 6, cells := 0, slots := 0, locals := 145 } [.ref (ad 0), .int (iI d)] st (fun rv u => ∃ z : Int, ∃ S : Sg, rv = some (.int (iI (z))) ∧ u = S ∧ (NB Y d z) ∧ (XS st S)) := by
  refine MC_intro RX6 (by decide) rfl (Nat.le_of_ble_eq_true rfl) ?_
  intro G H0 m hE hR
  refine k_lo [0, 1] (lo' := [(0, .ref (ad 0)), (1, .int (iI d))]) rfl ?_
  obtain ⟨hi0, hi1, hi2, hi3, hi4, hi5, hi6, hi7, hit, hir, him, hin⟩ := id hI
  refine k_iconst hE dX6_nobody_0 ?_
  refine k_iload_n hE dX6_nobody_1 1 rfl rfl ?_
  refine k_bipush hE dX6_nobody_2 rfl ?_
  refine k_callS hE (c_X6_isNot st 0 d 10 (by omega) (by omega) (by omega)) ms_X6_isNot ml_X6_104 rfl ⟨rfl, rfl, Nat.le_of_ble_eq_true rfl, Nat.le_of_ble_eq_true rfl⟩ [] (Nat.le_of_ble_eq_true rfl) dX6_nobody_4 rfl (fun rv u hp => ?_)
  obtain ⟨z1, hv4, hu4, hz_4⟩ := hp
  refine k_sk (sk' := [.int (iI z1)]) (by rw [hv4]; rfl) ?_
  refine k_st st hu4 ?_
  refine k_if_eq hE 12 dX6_nobody_7 (by decide) (by unfold in32; omega) (fun c7 => ?_) (fun c7 => ?_)
  · refine k_aload_n hE dX6_nobody_12 0 rfl rfl ?_
    refine k_callV hE (c_X6_noYard st Y hA hI) mf_X6_noYard ml_X6_108 0 rfl rfl rfl rfl ⟨rfl, rfl, Nat.le_of_ble_eq_true rfl, Nat.le_of_ble_eq_true rfl⟩ [] (Nat.le_of_ble_eq_true rfl) dX6_nobody_13 rfl (fun rv u hp => ?_)
    obtain ⟨z2, hv13, hu13, hz_13⟩ := hp
    refine k_sk (sk' := [.int (iI z2)]) (by rw [hv13]; rfl) ?_
    refine k_st st hu13 ?_
    refine k_if_eq hE 22 dX6_nobody_16 (by decide) (by unfold in32; omega) (fun c16 => ?_) (fun c16 => ?_)
    · have w1 : ¬ (d < 0 ∨ 10 < d) := by omega
      have w2 : Y.1 0 ≠ 0 := by omega
      refine k_aload_n hE dX6_nobody_22 0 rfl rfl ?_
      refine k_iload_n hE dX6_nobody_23 1 rfl rfl ?_
      refine k_callV hE (c_X6_passAsTold st Y d hA hI (by omega)) mf_X6_passAsTold ml_X6_134 0 rfl rfl rfl rfl ⟨rfl, rfl, Nat.le_of_ble_eq_true rfl, Nat.le_of_ble_eq_true rfl⟩ [] (Nat.le_of_ble_eq_true rfl) dX6_nobody_24 rfl (fun rv u hp => ?_)
      obtain ⟨S1, hv24, hu24, hx_24, hr_24, hO_24, er_24⟩ := hp
      refine k_sk (sk' := []) (by rw [hv24]; rfl) ?_
      refine k_st S1 hu24 ?_
      have hB : Ag S1 Y := hx_24.ag hA
      refine k_aload_n hE dX6_nobody_27 0 rfl rfl ?_
      refine x_get_X6_yard hE fl_X6_12 dX6_nobody_28 ?_
      refine k_aload_n hE dX6_nobody_31 0 rfl rfl ?_
      refine x_get_X6_days hE fl_X6_23 dX6_nobody_32 ?_
      refine x_get_X0_levels hE fl_X6_142 dX6_nobody_35 ?_
      refine k_iload_n hE dX6_nobody_38 1 rfl rfl ?_
      refine x_ld_levels hE (z := S1.2 9 d) (by omega) (by omega) rfl dX6_nobody_39 ?_
      have hlv := Ran_lev er_24 (k := d) (by omega) (by omega)
      refine k_callV hE (c_X5_beneathAllTaps S1 Y (S1.2 9 d) hB hI (by omega)) mf_X5_beneathAllTaps ml_X6_148 1 rfl rfl rfl rfl ⟨rfl, rfl, Nat.le_of_ble_eq_true rfl, Nat.le_of_ble_eq_true rfl⟩ [] (Nat.le_of_ble_eq_true rfl) dX6_nobody_40 rfl (fun rv u hp => ?_)
      obtain ⟨z3, hv40, hu40, p0_40, p1_40, p2_40⟩ := hp
      refine k_sk (sk' := [.int (iI ((S1.2 9 d) - z3))]) (by rw [hv40]; rfl) ?_
      refine k_st S1 hu40 ?_
      refine k_iret hR dX6_nobody_43 rfl ?_
      refine ⟨((S1.2 9 d) - z3), S1, rfl, rfl, Or.inr (Or.inr ⟨w1, w2, ?_⟩), hx_24⟩
      rw [← hlv.1]
      refine ⟨by omega, fun f f0 f1 => ?_, ?_⟩
      · have h1 := p1_40 f f0 f1
        have hf := hit f f0 (by omega)
        have hm := mul99 hf.2.1 hi2
        unfold GV at h1
        omega
      · rcases p2_40 with h | ⟨f, f0, f1, h⟩
        · exact Or.inl (by omega)
        · have hf := hit f f0 (by omega)
          have hm := mul99 hf.2.1 hi2
          unfold GV at h
          by_cases e : S1.2 9 d - Y.2 1 f * Y.1 2 ≤ 0
          · exact Or.inl (by omega)
          · exact Or.inr ⟨f, f0, f1, by omega⟩
    · refine k_bipush hE dX6_nobody_19 rfl ?_
      exact k_iret hR dX6_nobody_21 rfl ⟨_, st, rfl, rfl, Or.inr (Or.inl ⟨by omega, by omega, rfl⟩), XS.refl st⟩
  · refine k_iconst hE dX6_nobody_10 ?_
    exact k_iret hR dX6_nobody_11 rfl ⟨_, st, rfl, rfl, Or.inl ⟨by omega, rfl⟩, XS.refl st⟩

set_option maxHeartbeats 4000000 in
set_option maxRecDepth 100000 in
theorem c_X6_dry {ad : Nat → Nat} {ta sa ca : Int → Nat} {D : va_G} {cI cT cS : ClassId} (st : Sg) (Y : Sg) (f : Int) (hA : Ag st Y) (hI : Inv Y) (i_f : -2147483648 ≤ f ∧ f < 2147483648) : MC (xw ad ta sa ca D cI cT cS) yX6_dry cX6_dry 2 (some .int) { frames := 6, cells := 0, slots := 0, locals := 145 } [.ref (ad 0), .int (iI f)] st (fun rv u => ∃ z : Int, ∃ S : Sg, rv = some (.int (iI (z))) ∧ u = S ∧ (DY Y f z) ∧ (XS st S)) := by
  refine MC_intro RX6 (by decide) rfl (Nat.le_of_ble_eq_true rfl) ?_
  intro G H0 m hE hR
  refine k_lo [0, 1] (lo' := [(0, .ref (ad 0)), (1, .int (iI f))]) rfl ?_
  obtain ⟨hi0, hi1, hi2, hi3, hi4, hi5, hi6, hi7, hit, hir, him, hin⟩ := id hI
  refine k_aload_n hE dX6_dry_0 0 rfl rfl ?_
  refine k_iload_n hE dX6_dry_1 1 rfl rfl ?_
  refine k_callV hE (c_X6_noTap st Y f hA hI (by omega)) mf_X6_noTap ml_X6_79 0 rfl rfl rfl rfl ⟨rfl, rfl, Nat.le_of_ble_eq_true rfl, Nat.le_of_ble_eq_true rfl⟩ [] (Nat.le_of_ble_eq_true rfl) dX6_dry_2 rfl (fun rv u hp => ?_)
  obtain ⟨z1, hv2, hu2, hz_2⟩ := hp
  refine k_sk (sk' := [.int (iI z1)]) (by rw [hv2]; rfl) ?_
  refine k_st st hu2 ?_
  refine k_if_eq hE 10 dX6_dry_5 (by decide) (by unfold in32; omega) (fun c5 => ?_) (fun c5 => ?_)
  · refine k_aload_n hE dX6_dry_10 0 rfl rfl ?_
    refine k_bipush hE dX6_dry_11 rfl ?_
    refine k_callV hE (c_X6_passAsTold st Y 10 hA hI (by omega)) mf_X6_passAsTold ml_X6_134 0 rfl rfl rfl rfl ⟨rfl, rfl, Nat.le_of_ble_eq_true rfl, Nat.le_of_ble_eq_true rfl⟩ [] (Nat.le_of_ble_eq_true rfl) dX6_dry_13 rfl (fun rv u hp => ?_)
    obtain ⟨S1, hv13, hu13, hx_13, hr_13, hO_13, er_13⟩ := hp
    refine k_sk (sk' := []) (by rw [hv13]; rfl) ?_
    refine k_st S1 hu13 ?_
    have hB : Ag S1 Y := hx_13.ag hA
    refine k_aload_n hE dX6_dry_16 0 rfl rfl ?_
    refine x_get_X6_days hE fl_X6_23 dX6_dry_17 ?_
    refine k_iload_n hE dX6_dry_20 1 rfl rfl ?_
    refine k_bipush hE dX6_dry_21 rfl ?_
    refine k_callV hE (c_X0_firstDry S1 Y f 10 hB hI (by omega) (by omega) (by omega) (fun k k0 k1 => by have hg := Ran_gD er_13 (f := f) (k := k) (by omega) (by omega) (by omega) (by omega); omega)) mf_X0_firstDry ml_X6_151 4 rfl rfl rfl rfl ⟨rfl, rfl, Nat.le_of_ble_eq_true rfl, Nat.le_of_ble_eq_true rfl⟩ [] (Nat.le_of_ble_eq_true rfl) dX6_dry_23 rfl (fun rv u hp => ?_)
    obtain ⟨z1, hv23, hu23, hz_23⟩ := hp
    refine k_sk (sk' := [.int (iI z1)]) (by rw [hv23]; rfl) ?_
    refine k_st S1 hu23 ?_
    refine k_iret hR dX6_dry_26 rfl ?_
    refine ⟨_, S1, rfl, rfl, Or.inr ⟨by omega, ?_⟩, hx_13⟩
    exact FD_cong hz_23 (fun k k0 k1 => (Ran_gD er_13 (by omega) (by omega) k0 (by omega)).1)
  · refine k_iconst hE dX6_dry_8 ?_
    exact k_iret hR dX6_dry_9 rfl ⟨_, st, rfl, rfl, Or.inl ⟨by omega, rfl⟩, XS.refl st⟩

set_option maxHeartbeats 4000000 in
set_option maxRecDepth 100000 in
theorem c_X6_can {ad : Nat → Nat} {ta sa ca : Int → Nat} {D : va_G} {cI cT cS : ClassId} (st : Sg) (Y : Sg) (n : Int) (hA : Ag st Y) (hI : Inv Y) (i_n : -2147483648 ≤ n ∧ n < 2147483648) : MC (xw ad ta sa ca D cI cT cS) yX6_can cX6_can 2 (some .int) { frames := 5, cells := 0, slots := 0, locals := 125 } [.ref (ad 0), .int (iI n)] st (fun rv u => ∃ z : Int, ∃ S : Sg, rv = some (.int (iI (z))) ∧ u = S ∧ (CN Y n z) ∧ (XS st S)) := by
  refine MC_intro RX6 (by decide) rfl (Nat.le_of_ble_eq_true rfl) ?_
  intro G H0 m hE hR
  refine k_lo [0, 1] (lo' := [(0, .ref (ad 0)), (1, .int (iI n))]) rfl ?_
  obtain ⟨hi0, hi1, hi2, hi3, hi4, hi5, hi6, hi7, hit, hir, him, hin⟩ := id hI
  refine k_iconst hE dX6_can_0 ?_
  refine k_iload_n hE dX6_can_1 1 rfl rfl ?_
  refine k_bipush hE dX6_can_2 rfl ?_
  refine k_callS hE (c_X6_isNot st 0 n 10 (by omega) (by omega) (by omega)) ms_X6_isNot ml_X6_104 rfl ⟨rfl, rfl, Nat.le_of_ble_eq_true rfl, Nat.le_of_ble_eq_true rfl⟩ [] (Nat.le_of_ble_eq_true rfl) dX6_can_4 rfl (fun rv u hp => ?_)
  obtain ⟨z1, hv4, hu4, hz_4⟩ := hp
  refine k_sk (sk' := [.int (iI z1)]) (by rw [hv4]; rfl) ?_
  refine k_st st hu4 ?_
  refine k_if_eq hE 13 dX6_can_7 (by decide) (by unfold in32; omega) (fun c7 => ?_) (fun c7 => ?_)
  · refine k_aload_n hE dX6_can_13 0 rfl rfl ?_
    refine k_callV hE (c_X6_noYard st Y hA hI) mf_X6_noYard ml_X6_108 0 rfl rfl rfl rfl ⟨rfl, rfl, Nat.le_of_ble_eq_true rfl, Nat.le_of_ble_eq_true rfl⟩ [] (Nat.le_of_ble_eq_true rfl) dX6_can_14 rfl (fun rv u hp => ?_)
    obtain ⟨z2, hv14, hu14, hz_14⟩ := hp
    refine k_sk (sk' := [.int (iI z2)]) (by rw [hv14]; rfl) ?_
    refine k_st st hu14 ?_
    refine k_if_eq hE 23 dX6_can_17 (by decide) (by unfold in32; omega) (fun c17 => ?_) (fun c17 => ?_)
    · refine k_aload_n hE dX6_can_23 0 rfl rfl ?_
      refine x_get_X6_days hE fl_X6_23 dX6_can_24 ?_
      refine k_aload_n hE dX6_can_27 0 rfl rfl ?_
      refine x_get_X6_yard hE fl_X6_12 dX6_can_28 ?_
      refine x_get_X5_firstWater hE (z := Y.1 3) (hA.1 3 (by decide)) fl_X6_115 dX6_can_31 ?_
      refine k_iload_n hE dX6_can_34 1 rfl rfl ?_
      refine k_callV hE (c_X0_allHaveNeeds st Y (Y.1 3) n hA hI (by omega) (by omega)) mf_X0_allHaveNeeds ml_X6_154 4 rfl rfl rfl rfl ⟨rfl, rfl, Nat.le_of_ble_eq_true rfl, Nat.le_of_ble_eq_true rfl⟩ [] (Nat.le_of_ble_eq_true rfl) dX6_can_35 rfl (fun rv u hp => ?_)
      obtain ⟨z1, S1, hv35, hu35, hz_35, hx_35⟩ := hp
      refine k_sk (sk' := [.int (iI z1)]) (by rw [hv35]; rfl) ?_
      refine k_st S1 hu35 ?_
      refine k_if_eq hE 45 dX6_can_38 (by decide) (by unfold in32; omega) (fun c38 => ?_) (fun c38 => ?_)
      · refine k_iconst hE dX6_can_45 ?_
        exact k_iret hR dX6_can_46 rfl ⟨_, S1, rfl, rfl, Or.inr (Or.inr ⟨by omega, by omega, by rcases hz_35 with h | h <;> first | exact Or.inl ⟨rfl, h.2⟩ | exact Or.inr ⟨rfl, h.2⟩ | omega⟩), hx_35⟩
      · refine k_iconst hE dX6_can_41 ?_
        refine k_goto hE 46 dX6_can_42 (by decide) ?_
        exact k_iret hR dX6_can_46 rfl ⟨_, S1, rfl, rfl, Or.inr (Or.inr ⟨by omega, by omega, by rcases hz_35 with h | h <;> first | exact Or.inl ⟨rfl, h.2⟩ | exact Or.inr ⟨rfl, h.2⟩ | omega⟩), hx_35⟩
    · refine k_bipush hE dX6_can_20 rfl ?_
      exact k_iret hR dX6_can_22 rfl ⟨_, st, rfl, rfl, Or.inr (Or.inl ⟨by omega, by omega, rfl⟩), XS.refl st⟩
  · refine k_bipush hE dX6_can_10 rfl ?_
    exact k_iret hR dX6_can_12 rfl ⟨_, st, rfl, rfl, Or.inl ⟨by omega, rfl⟩, XS.refl st⟩
end
section
set_option maxHeartbeats 4000000 in
set_option maxRecDepth 100000 in
theorem c_X6_start {ad : Nat → Nat} {ta sa ca : Int → Nat} {D : va_G} {cI cT cS : ClassId} (st : Sg) (Y : Sg) (n : Int) (hA : Ag st Y) (hI : Inv Y) (i_n : -2147483648 ≤ n ∧ n < 2147483648) : MC (xw ad ta sa ca D cI cT cS) yX6_start cX6_start 3 (some .int) { frames := 5, cells := 0, slots := 0, locals := 125 } [.ref (ad 0), .int (iI n)] st (fun rv u => ∃ z : Int, ∃ S : Sg, rv = some (.int (iI (z))) ∧ u = S ∧ (SA Y n z) ∧ (XS st S)) := by
  refine MC_intro RX6 (by decide) rfl (Nat.le_of_ble_eq_true rfl) ?_
  intro G H0 m hE hR
  refine k_lo [0, 1] (lo' := [(0, .ref (ad 0)), (1, .int (iI n))]) rfl ?_
  obtain ⟨hi0, hi1, hi2, hi3, hi4, hi5, hi6, hi7, hit, hir, him, hin⟩ := id hI
  refine k_iconst hE dX6_start_0 ?_
  refine k_iload_n hE dX6_start_1 1 rfl rfl ?_
  refine k_bipush hE dX6_start_2 rfl ?_
  refine k_callS hE (c_X6_isNot st 0 n 10 (by omega) (by omega) (by omega)) ms_X6_isNot ml_X6_104 rfl ⟨rfl, rfl, Nat.le_of_ble_eq_true rfl, Nat.le_of_ble_eq_true rfl⟩ [] (Nat.le_of_ble_eq_true rfl) dX6_start_4 rfl (fun rv u hp => ?_)
  obtain ⟨z1, hv4, hu4, hz_4⟩ := hp
  refine k_sk (sk' := [.int (iI z1)]) (by rw [hv4]; rfl) ?_
  refine k_st st hu4 ?_
  refine k_if_eq hE 13 dX6_start_7 (by decide) (by unfold in32; omega) (fun c7 => ?_) (fun c7 => ?_)
  · refine k_aload_n hE dX6_start_13 0 rfl rfl ?_
    refine k_callV hE (c_X6_noYard st Y hA hI) mf_X6_noYard ml_X6_108 0 rfl rfl rfl rfl ⟨rfl, rfl, Nat.le_of_ble_eq_true rfl, Nat.le_of_ble_eq_true rfl⟩ [] (Nat.le_of_ble_eq_true rfl) dX6_start_14 rfl (fun rv u hp => ?_)
    obtain ⟨z2, hv14, hu14, hz_14⟩ := hp
    refine k_sk (sk' := [.int (iI z2)]) (by rw [hv14]; rfl) ?_
    refine k_st st hu14 ?_
    refine k_if_eq hE 23 dX6_start_17 (by decide) (by unfold in32; omega) (fun c17 => ?_) (fun c17 => ?_)
    · have w1 : ¬ (n < 0 ∨ 10 < n) := by omega
      have w2 : Y.1 0 ≠ 0 := by omega
      refine k_iconst hE dX6_start_23 ?_
      refine k_istore_n hE dX6_start_24 [1, 2, 0] rfl (Nat.le_of_ble_eq_true rfl) (lo' := [(0, .ref (ad 0)), (1, .int (iI n)), (2, .int (iI 0))]) rfl ?_
      have L25 : ∀ (fu25 : Nat) (S : Sg) (w : Int), (0 ≤ w ∧ w ≤ Y.1 1 + 1) → (Y.1 1 + 1 - w < fu25) → (XS st S) → (∀ v : Int, 0 ≤ v → v < w → ¬ CA Y v n) → KW (xw ad ta sa ca D cI cT cS) G H0 m 3 S 25 [(0, .ref (ad 0)), (1, .int (iI n)), (2, .int (iI w))] [] := by
        intro fu25
        induction fu25 with
        | zero =>
          intro S w q0 q1 hxS qn
          omega
        | succ fu25 ih25 =>
          intro S w q0 q1 hxS qn
          have hAS := hxS.ag hA
          refine k_iload_n hE dX6_start_25 2 rfl rfl ?_
          refine k_aload_n hE dX6_start_26 0 rfl rfl ?_
          refine x_get_X6_yard hE fl_X6_12 dX6_start_27 ?_
          refine x_get_X5_cap hE (z := Y.1 1) (hAS.1 1 (by decide)) fl_X6_112 dX6_start_30 ?_
          refine k_icmp_gt hE 56 dX6_start_33 (by decide) (by unfold in32; omega) (by unfold in32; omega) (fun c33 => ?_) (fun c33 => ?_)
          · refine k_bipush hE dX6_start_56 rfl ?_
            exact k_iret hR dX6_start_58 rfl ⟨-9, S, rfl, rfl, Or.inr (Or.inr ⟨w1, w2, Or.inl ⟨rfl, fun v v0 v1 => qn v v0 (by omega)⟩⟩), hxS⟩
          · refine k_aload_n hE dX6_start_36 0 rfl rfl ?_
            refine x_get_X6_days hE fl_X6_23 dX6_start_37 ?_
            refine k_iload_n hE dX6_start_40 2 rfl rfl ?_
            refine k_iload_n hE dX6_start_41 1 rfl rfl ?_
            refine k_callV hE (c_X0_allHaveNeeds S Y w n hAS hI (by omega) (by omega)) mf_X0_allHaveNeeds ml_X6_154 4 rfl rfl rfl rfl ⟨rfl, rfl, Nat.le_of_ble_eq_true rfl, Nat.le_of_ble_eq_true rfl⟩ [] (Nat.le_of_ble_eq_true rfl) dX6_start_42 rfl (fun rv u hp => ?_)
            obtain ⟨zz, S2, hv42, hu42, hz_42, hx_42⟩ := hp
            refine k_sk (sk' := [.int (iI zz)]) (by rw [hv42]; rfl) ?_
            refine k_st S2 hu42 ?_
            refine k_if_eq hE 50 dX6_start_45 (by decide) (by unfold in32; omega) (fun c45 => ?_) (fun c45 => ?_)
            · refine k_iinc hE dX6_start_50 2 [1, 2, 0] rfl (Nat.le_of_ble_eq_true rfl) (lo' := [(0, .ref (ad 0)), (1, .int (iI n)), (2, .int (iI (w + 1)))]) rfl ?_
              refine k_goto hE 25 dX6_start_53 (by decide) ?_
              refine ih25 S2 _ (by omega) (by omega) (hxS.trans hx_42) (fun v v0 v1 => ?_)
              by_cases e : v = w
              · rw [e]
                rcases hz_42 with h | h
                · omega
                · exact h.2
              · exact qn v v0 (by omega)
            · refine k_iload_n hE dX6_start_48 2 rfl rfl ?_
              refine k_iret hR dX6_start_49 rfl ?_
              refine ⟨w, S2, rfl, rfl, Or.inr (Or.inr ⟨w1, w2, Or.inr ⟨by omega, by omega, ?_, qn⟩⟩), hxS.trans hx_42⟩
              rcases hz_42 with h | h
              · exact h.2
              · omega
      exact L25 102 st 0 (by omega) (by omega) (XS.refl st) (fun v v0 v1 => by omega)
    · refine k_bipush hE dX6_start_20 rfl ?_
      exact k_iret hR dX6_start_22 rfl ⟨_, st, rfl, rfl, Or.inr (Or.inl ⟨by omega, by omega, rfl⟩), XS.refl st⟩
  · refine k_bipush hE dX6_start_10 rfl ?_
    exact k_iret hR dX6_start_12 rfl ⟨_, st, rfl, rfl, Or.inl ⟨by omega, rfl⟩, XS.refl st⟩

set_option maxHeartbeats 4000000 in
set_option maxRecDepth 100000 in
theorem c_X6_best {ad : Nat → Nat} {ta sa ca : Int → Nat} {D : va_G} {cI cT cS : ClassId} (st : Sg) (Y : Sg) (n : Int) (x : Int) (hA : Ag st Y) (hI : Inv Y) (i_n : -2147483648 ≤ n ∧ n < 2147483648) (i_x : -2147483648 ≤ x ∧ x < 2147483648) : MC (xw ad ta sa ca D cI cT cS) yX6_best cX6_best 7 (some .int) { frames := 5, cells := 0, slots := 0, locals := 124 } [.ref (ad 0), .int (iI n), .int (iI x)] st (fun rv u => ∃ z : Int, ∃ S : Sg, rv = some (.int (iI (z))) ∧ u = S ∧ (BE Y n x z) ∧ (XS st S)) := by
  refine MC_intro RX6 (by decide) rfl (Nat.le_of_ble_eq_true rfl) ?_
  intro G H0 m hE hR
  refine k_lo [0, 1, 2] (lo' := [(0, .ref (ad 0)), (1, .int (iI n)), (2, .int (iI x))]) rfl ?_
  obtain ⟨hi0, hi1, hi2, hi3, hi4, hi5, hi6, hi7, hit, hir, him, hin⟩ := id hI
  refine k_iconst hE dX6_best_0 ?_
  refine k_iload_n hE dX6_best_1 1 rfl rfl ?_
  refine k_bipush hE dX6_best_2 rfl ?_
  refine k_callS hE (c_X6_isNot st 0 n 10 (by omega) (by omega) (by omega)) ms_X6_isNot ml_X6_104 rfl ⟨rfl, rfl, Nat.le_of_ble_eq_true rfl, Nat.le_of_ble_eq_true rfl⟩ [] (Nat.le_of_ble_eq_true rfl) dX6_best_4 rfl (fun rv u hp => ?_)
  obtain ⟨z1, hv4, hu4, hz_4⟩ := hp
  refine k_sk (sk' := [.int (iI z1)]) (by rw [hv4]; rfl) ?_
  refine k_st st hu4 ?_
  refine k_if_ne hE 19 dX6_best_7 (by decide) (by unfold in32; omega) (fun c7 => ?_) (fun c7 => ?_)
  · refine k_bipush hE dX6_best_19 rfl ?_
    exact k_iret hR dX6_best_21 rfl ⟨_, st, rfl, rfl, Or.inl ⟨by omega, rfl⟩, XS.refl st⟩
  · refine k_iconst hE dX6_best_10 ?_
    refine k_iload_n hE dX6_best_11 2 rfl rfl ?_
    refine k_iconst hE dX6_best_12 ?_
    refine k_callS hE (c_X6_isNot st 0 x 1 (by omega) (by omega) (by omega)) ms_X6_isNot ml_X6_104 rfl ⟨rfl, rfl, Nat.le_of_ble_eq_true rfl, Nat.le_of_ble_eq_true rfl⟩ [] (Nat.le_of_ble_eq_true rfl) dX6_best_13 rfl (fun rv u hp => ?_)
    obtain ⟨z2, hv13, hu13, hz_13⟩ := hp
    refine k_sk (sk' := [.int (iI z2)]) (by rw [hv13]; rfl) ?_
    refine k_st st hu13 ?_
    refine k_if_eq hE 22 dX6_best_16 (by decide) (by unfold in32; omega) (fun c16 => ?_) (fun c16 => ?_)
    · refine k_aload_n hE dX6_best_22 0 rfl rfl ?_
      refine k_callV hE (c_X6_noYard st Y hA hI) mf_X6_noYard ml_X6_108 0 rfl rfl rfl rfl ⟨rfl, rfl, Nat.le_of_ble_eq_true rfl, Nat.le_of_ble_eq_true rfl⟩ [] (Nat.le_of_ble_eq_true rfl) dX6_best_23 rfl (fun rv u hp => ?_)
      obtain ⟨z3, hv23, hu23, hz_23⟩ := hp
      refine k_sk (sk' := [.int (iI z3)]) (by rw [hv23]; rfl) ?_
      refine k_st st hu23 ?_
      refine k_if_eq hE 32 dX6_best_26 (by decide) (by unfold in32; omega) (fun c26 => ?_) (fun c26 => ?_)
      · have w1 : ¬ ((n < 0 ∨ 10 < n) ∨ (x < 0 ∨ 1 < x)) := by omega
        have w2 : Y.1 0 ≠ 0 := by omega
        refine k_iconst hE dX6_best_32 ?_
        refine k_istore_n hE dX6_best_33 [1, 2, 3, 0] rfl (Nat.le_of_ble_eq_true rfl) (lo' := [(0, .ref (ad 0)), (1, .int (iI n)), (2, .int (iI x)), (3, .int (iI 0))]) rfl ?_
        refine k_iconst hE dX6_best_34 ?_
        refine k_istore hE dX6_best_35 [1, 2, 3, 4, 0] (Nat.le_of_ble_eq_true rfl) (lo' := [(0, .ref (ad 0)), (1, .int (iI n)), (2, .int (iI x)), (3, .int (iI 0)), (4, .int (iI (-1)))]) rfl ?_
        refine k_iconst hE dX6_best_37 ?_
        refine k_istore hE dX6_best_38 [1, 2, 3, 4, 5, 0] (Nat.le_of_ble_eq_true rfl) (lo' := [(0, .ref (ad 0)), (1, .int (iI n)), (2, .int (iI x)), (3, .int (iI 0)), (4, .int (iI (-1))), (5, .int (iI 0))]) rfl ?_
        have L40 : ∀ (fu40 : Nat) (S : Sg) (b : Int) (c : Int) (q : Int), (0 ≤ q ∧ q ≤ 3) → (3 - q < fu40) → (XS st S) → (BLr (NC Y n) q b c) → KW (xw ad ta sa ca D cI cT cS) G H0 m 7 S 40 [(0, .ref (ad 0)), (1, .int (iI n)), (2, .int (iI x)), (3, .int (iI b)), (4, .int (iI c)), (5, .int (iI q))] [] := by
          intro fu40
          induction fu40 with
          | zero =>
            intro S b c q q0 q1 hxS hB
            omega
          | succ fu40 ih40 =>
            intro S b c q q0 q1 hxS hB
            have hAS := hxS.ag hA
            have rN : ∀ p : Int, 0 ≤ NC Y n p ∧ NC Y n p ≤ 6 := fun p => by have r := CT_rng (fun f => NV Y p (Y.1 3) (Y.2 4) n f) (Y.1 0).toNat; unfold NC; omega
            have rc : (-1 ≤ c ∧ c ≤ 6) ∧ (0 ≤ b ∧ b ≤ 2) := by
              have r := rN b
              rcases hB with h | ⟨h1, h2, h3, h4⟩ <;> omega
            refine k_iload hE dX6_best_40 5 rfl ?_
            refine k_iconst hE dX6_best_42 ?_
            refine k_icmp_gt hE 101 dX6_best_43 (by decide) (by unfold in32; omega) (by unfold in32; omega) (fun c43 => ?_) (fun c43 => ?_)
            · refine k_iload_n hE dX6_best_101 2 rfl rfl ?_
              refine k_if_ne hE 109 dX6_best_102 (by decide) (by unfold in32; omega) (fun c102 => ?_) (fun c102 => ?_)
              · refine k_iload hE dX6_best_109 4 rfl ?_
                refine k_iret hR dX6_best_111 rfl ?_
                have eq : q = 3 := by omega
                rw [eq] at hB
                refine ⟨_, S, rfl, rfl, Or.inr (Or.inr ⟨w1, w2, b, c, hB, ?_⟩), hxS⟩
                first
                  | (rw [if_pos (by omega)])
                  | (rw [if_neg (by omega)])
              · refine k_iload_n hE dX6_best_105 3 rfl rfl ?_
                refine k_goto hE 111 dX6_best_106 (by decide) ?_
                refine k_iret hR dX6_best_111 rfl ?_
                have eq : q = 3 := by omega
                rw [eq] at hB
                refine ⟨_, S, rfl, rfl, Or.inr (Or.inr ⟨w1, w2, b, c, hB, ?_⟩), hxS⟩
                first
                  | (rw [if_pos (by omega)])
                  | (rw [if_neg (by omega)])
            · refine k_aload_n hE dX6_best_46 0 rfl rfl ?_
              refine x_get_X6_days hE fl_X6_23 dX6_best_47 ?_
              refine k_aload_n hE dX6_best_50 0 rfl rfl ?_
              refine x_get_X6_yard hE fl_X6_12 dX6_best_51 ?_
              refine x_get_X5_firstWater hE (z := Y.1 3) (hAS.1 3 (by decide)) fl_X6_115 dX6_best_54 ?_
              refine k_iload hE dX6_best_57 5 rfl ?_
              refine k_callV hE (c_X0_startWith S Y (Y.1 3) q hAS hI (by omega)) mf_X0_startWith ml_X6_157 4 rfl rfl rfl rfl ⟨rfl, rfl, Nat.le_of_ble_eq_true rfl, Nat.le_of_ble_eq_true rfl⟩ [] (Nat.le_of_ble_eq_true rfl) dX6_best_59 rfl (fun rv u hp => ?_)
              obtain ⟨S1, hv59, hu59, e1_59, e2_59, e3_59⟩ := hp
              refine k_sk (sk' := []) (by rw [hv59]; rfl) ?_
              refine k_st S1 hu59 ?_
              have hB1 : Ag S1 Y := ⟨fun i hi => by rw [e1_59, uv_n _ _ (by omega)]; exact hAS.1 i hi, fun a ha => by rw [e2_59 a (by omega), ur_n _ _ _ (by omega)]; exact hAS.2 a ha⟩
              refine k_aload_n hE dX6_best_62 0 rfl rfl ?_
              refine x_get_X6_days hE fl_X6_23 dX6_best_63 ?_
              refine k_iconst hE dX6_best_66 ?_
              refine k_iload_n hE dX6_best_67 1 rfl rfl ?_
              refine k_callV hE (c_X0_passDays S1 Y 0 n (Y.1 3) q hB1 hI (by omega) (by omega) (by rw [e2_59 9 (by decide)]; exact ur_s _ _ _ _) hi3 (by rw [e1_59]; exact uv_s _ _ _) (by omega) e3_59) mf_X0_passDays ml_X6_161 4 rfl rfl rfl rfl ⟨rfl, rfl, Nat.le_of_ble_eq_true rfl, Nat.le_of_ble_eq_true rfl⟩ [] (Nat.le_of_ble_eq_true rfl) dX6_best_68 rfl (fun rv u hp => ?_)
              obtain ⟨S2, hv68, hu68, e1_68, e2_68, er_68⟩ := hp
              refine k_sk (sk' := []) (by rw [hv68]; rfl) ?_
              refine k_st S2 hu68 ?_
              have hxT : XS st S2 := hxS.trans ⟨fun i hi => by rw [e1_68, e1_59, uv_n _ _ hi], fun a ha => by rw [e2_68 a (by omega), e2_59 a (by omega), ur_n _ _ _ (by omega)]⟩
              have hB2 : Ag S2 Y := hxT.ag hA
              refine k_aload_n hE dX6_best_71 0 rfl rfl ?_
              refine x_get_X6_days hE fl_X6_23 dX6_best_72 ?_
              refine k_iload_n hE dX6_best_75 1 rfl rfl ?_
              refine k_callV hE (c_X0_countNeverDry S2 Y n hB2 hI (by omega) (fun f f0 f1 k k0 k1 => by have hg := Ran_gD er_68 (f := f) (k := k) f0 f1 k0 (by omega); omega)) mf_X0_countNeverDry ml_X6_164 4 rfl rfl rfl rfl ⟨rfl, rfl, Nat.le_of_ble_eq_true rfl, Nat.le_of_ble_eq_true rfl⟩ [] (Nat.le_of_ble_eq_true rfl) dX6_best_76 rfl (fun rv u hp => ?_)
              obtain ⟨hv76, hu76⟩ := hp
              refine k_sk (sk' := [.int (iI (CT (fun f => ∀ k : Int, 0 ≤ k → k < n → Y.2 2 f ≤ S2.2 11 (k * 6 + f)) (Y.1 0).toNat))]) (by rw [hv76]; rfl) ?_
              refine k_st S2 hu76 ?_
              have rNq := rN q
              have ec : CT (fun f => ∀ k : Int, 0 ≤ k → k < n → Y.2 2 f ≤ S2.2 11 (k * 6 + f)) (Y.1 0).toNat = NC Y n q := CT_cong (fun f f0 f1 => ⟨fun h k k0 k1 => by rw [← (Ran_gD er_68 f0 (by omega) k0 (by omega)).1]; exact h k k0 k1, fun h k k0 k1 => by rw [(Ran_gD er_68 f0 (by omega) k0 (by omega)).1]; exact h k k0 k1⟩)
              refine k_sk (sk' := [.int (iI (NC Y n q))]) (by rw [show CT (fun f => ∀ k : Int, 0 ≤ k → k < n → Y.2 2 f ≤ S2.2 11 (k * 6 + f)) (Y.1 0).toNat = NC Y n q from ec]) ?_
              refine k_istore hE dX6_best_79 [1, 2, 3, 4, 5, 6, 0] (Nat.le_of_ble_eq_true rfl) (lo' := [(0, .ref (ad 0)), (1, .int (iI n)), (2, .int (iI x)), (3, .int (iI b)), (4, .int (iI c)), (5, .int (iI q)), (6, .int (iI (NC Y n q)))]) rfl ?_
              refine k_iload hE dX6_best_81 6 rfl ?_
              refine k_iload hE dX6_best_83 4 rfl ?_
              refine k_icmp_le hE 95 dX6_best_85 (by decide) (by unfold in32; omega) (by unfold in32; omega) (fun c85 => ?_) (fun c85 => ?_)
              · refine k_iinc hE dX6_best_95 5 [1, 2, 3, 4, 5, 0, 6] rfl (Nat.le_of_ble_eq_true rfl) (lo' := [(0, .ref (ad 0)), (1, .int (iI n)), (2, .int (iI x)), (3, .int (iI b)), (4, .int (iI c)), (5, .int (iI (q + 1))), (6, .int (iI (NC Y n q)))]) rfl ?_
                refine k_goto hE 40 dX6_best_98 (by decide) ?_
                refine k_lo [0, 1, 2, 3, 4, 5] (lo' := [(0, .ref (ad 0)), (1, .int (iI n)), (2, .int (iI x)), (3, .int (iI b)), (4, .int (iI c)), (5, .int (iI (q + 1)))]) rfl ?_
                have hs := BLr_s hB q0.1 (rN q).1
                first
                  | (rw [if_pos (by omega), if_pos (by omega)] at hs
                     exact ih40 S2 _ _ _ (by omega) (by omega) hxT hs)
                  | (rw [if_neg (by omega), if_neg (by omega)] at hs
                     exact ih40 S2 _ _ _ (by omega) (by omega) hxT hs)
              · refine k_iload hE dX6_best_88 6 rfl ?_
                refine k_istore hE dX6_best_90 [1, 2, 3, 4, 0, 5, 6] (Nat.le_of_ble_eq_true rfl) (lo' := [(0, .ref (ad 0)), (1, .int (iI n)), (2, .int (iI x)), (3, .int (iI b)), (4, .int (iI (NC Y n q))), (5, .int (iI q)), (6, .int (iI (NC Y n q)))]) rfl ?_
                refine k_iload hE dX6_best_92 5 rfl ?_
                refine k_istore_n hE dX6_best_94 [1, 2, 3, 0, 4, 5, 6] rfl (Nat.le_of_ble_eq_true rfl) (lo' := [(0, .ref (ad 0)), (1, .int (iI n)), (2, .int (iI x)), (3, .int (iI q)), (4, .int (iI (NC Y n q))), (5, .int (iI q)), (6, .int (iI (NC Y n q)))]) rfl ?_
                refine k_iinc hE dX6_best_95 5 [1, 2, 3, 4, 5, 0, 6] rfl (Nat.le_of_ble_eq_true rfl) (lo' := [(0, .ref (ad 0)), (1, .int (iI n)), (2, .int (iI x)), (3, .int (iI q)), (4, .int (iI (NC Y n q))), (5, .int (iI (q + 1))), (6, .int (iI (NC Y n q)))]) rfl ?_
                refine k_goto hE 40 dX6_best_98 (by decide) ?_
                refine k_lo [0, 1, 2, 3, 4, 5] (lo' := [(0, .ref (ad 0)), (1, .int (iI n)), (2, .int (iI x)), (3, .int (iI q)), (4, .int (iI (NC Y n q))), (5, .int (iI (q + 1)))]) rfl ?_
                have hs := BLr_s hB q0.1 (rN q).1
                first
                  | (rw [if_pos (by omega), if_pos (by omega)] at hs
                     exact ih40 S2 _ _ _ (by omega) (by omega) hxT hs)
                  | (rw [if_neg (by omega), if_neg (by omega)] at hs
                     exact ih40 S2 _ _ _ (by omega) (by omega) hxT hs)
        exact L40 4 st 0 (-1) 0 (by omega) (by omega) (XS.refl st) (Or.inl ⟨rfl, rfl, rfl⟩)
      · refine k_bipush hE dX6_best_29 rfl ?_
        exact k_iret hR dX6_best_31 rfl ⟨_, st, rfl, rfl, Or.inr (Or.inl ⟨by omega, by omega, rfl⟩), XS.refl st⟩
    · refine k_bipush hE dX6_best_19 rfl ?_
      exact k_iret hR dX6_best_21 rfl ⟨_, st, rfl, rfl, Or.inl ⟨by omega, rfl⟩, XS.refl st⟩

set_option maxHeartbeats 4000000 in
set_option maxRecDepth 100000 in
theorem c_X6_highest {ad : Nat → Nat} {ta sa ca : Int → Nat} {D : va_G} {cI cT cS : ClassId} (st : Sg) (Y : Sg) (f : Int) (n : Int) (hA : Ag st Y) (hI : Inv Y) (i_f : -2147483648 ≤ f ∧ f < 2147483648) (i_n : -2147483648 ≤ n ∧ n < 2147483648) : MC (xw ad ta sa ca D cI cT cS) yX6_highest cX6_highest 7 (some .int) { frames := 6, cells := 0, slots := 0, locals := 145 } [.ref (ad 0), .int (iI f), .int (iI n)] st (fun rv u => ∃ z : Int, ∃ S : Sg, rv = some (.int (iI (z))) ∧ u = S ∧ (HI Y f n z) ∧ (XS st S)) := by
  refine MC_intro RX6 (by decide) rfl (Nat.le_of_ble_eq_true rfl) ?_
  intro G H0 m hE hR
  refine k_lo [0, 1, 2] (lo' := [(0, .ref (ad 0)), (1, .int (iI f)), (2, .int (iI n))]) rfl ?_
  obtain ⟨hi0, hi1, hi2, hi3, hi4, hi5, hi6, hi7, hit, hir, him, hin⟩ := id hI
  refine k_aload_n hE dX6_highest_0 0 rfl rfl ?_
  refine k_iload_n hE dX6_highest_1 1 rfl rfl ?_
  refine k_callV hE (c_X6_noTap st Y f hA hI (by omega)) mf_X6_noTap ml_X6_79 0 rfl rfl rfl rfl ⟨rfl, rfl, Nat.le_of_ble_eq_true rfl, Nat.le_of_ble_eq_true rfl⟩ [] (Nat.le_of_ble_eq_true rfl) dX6_highest_2 rfl (fun rv u hp => ?_)
  obtain ⟨z1, hv2, hu2, hz_2⟩ := hp
  refine k_sk (sk' := [.int (iI z1)]) (by rw [hv2]; rfl) ?_
  refine k_st st hu2 ?_
  refine k_if_eq hE 10 dX6_highest_5 (by decide) (by unfold in32; omega) (fun c5 => ?_) (fun c5 => ?_)
  · refine k_iconst hE dX6_highest_10 ?_
    refine k_iload_n hE dX6_highest_11 2 rfl rfl ?_
    refine k_bipush hE dX6_highest_12 rfl ?_
    refine k_callS hE (c_X6_isNot st 0 n 10 (by omega) (by omega) (by omega)) ms_X6_isNot ml_X6_104 rfl ⟨rfl, rfl, Nat.le_of_ble_eq_true rfl, Nat.le_of_ble_eq_true rfl⟩ [] (Nat.le_of_ble_eq_true rfl) dX6_highest_14 rfl (fun rv u hp => ?_)
    obtain ⟨z2, hv14, hu14, hz_14⟩ := hp
    refine k_sk (sk' := [.int (iI z2)]) (by rw [hv14]; rfl) ?_
    refine k_st st hu14 ?_
    refine k_if_eq hE 23 dX6_highest_17 (by decide) (by unfold in32; omega) (fun c17 => ?_) (fun c17 => ?_)
    · have w1 : ¬ (f < 0 ∨ Y.1 0 ≤ f) := by omega
      have w2 : ¬ (n < 0 ∨ 10 < n) := by omega
      refine k_aload_n hE dX6_highest_23 0 rfl rfl ?_
      refine x_get_X6_yard hE fl_X6_12 dX6_highest_24 ?_
      refine x_get_X5_taps hE fl_X6_82 dX6_highest_27 ?_
      refine k_iload_n hE dX6_highest_30 1 rfl rfl ?_
      refine x_ld_taps hE (i := f) (by omega) (by omega) dX6_highest_31 ?_
      refine k_astore_n hE dX6_highest_32 [1, 2, 3, 0] rfl (Nat.le_of_ble_eq_true rfl) (lo' := [(0, .ref (ad 0)), (1, .int (iI f)), (2, .int (iI n)), (3, .ref (ta f))]) rfl ?_
      refine k_aload_n hE dX6_highest_33 3 rfl rfl ?_
      refine x_get_X3_height hE (z := Y.2 1 f) (by omega) (by omega) (congrFun (hA.2 1 (by decide)) f) fl_X6_91 dX6_highest_34 ?_
      refine k_istore hE dX6_highest_37 [1, 2, 3, 4, 0] (Nat.le_of_ble_eq_true rfl) (lo' := [(0, .ref (ad 0)), (1, .int (iI f)), (2, .int (iI n)), (3, .ref (ta f)), (4, .int (iI (Y.2 1 f)))]) rfl ?_
      refine k_bipush hE dX6_highest_39 rfl ?_
      refine k_istore hE dX6_highest_41 [1, 2, 3, 4, 5, 0] (Nat.le_of_ble_eq_true rfl) (lo' := [(0, .ref (ad 0)), (1, .int (iI f)), (2, .int (iI n)), (3, .ref (ta f)), (4, .int (iI (Y.2 1 f))), (5, .int (iI (-9)))]) rfl ?_
      refine k_bipush hE dX6_highest_43 rfl ?_
      refine k_istore hE dX6_highest_45 [1, 2, 3, 4, 5, 6, 0] (Nat.le_of_ble_eq_true rfl) (lo' := [(0, .ref (ad 0)), (1, .int (iI f)), (2, .int (iI n)), (3, .ref (ta f)), (4, .int (iI (Y.2 1 f))), (5, .int (iI (-9))), (6, .int (iI 9))]) rfl ?_
      have L47 : ∀ (fu47 : Nat) (S : Sg) (is : Int) (h : Int), (-1 ≤ h ∧ h ≤ 9) → (h + 1 < fu47) → (∀ i, i ≠ 10 → S.1 i = st.1 i) → (∀ a, a ≠ 1 → (a < 9 ∨ 12 < a) → S.2 a = st.2 a) → (∀ j : Int, j ≠ f → S.2 1 j = st.2 1 j) → ((is = -9 ∧ ∀ g : Int, h < g → g ≤ 9 → ¬ NV (YH Y f g) (Y.1 4) (Y.1 3) (Y.2 4) n f) ∨ (0 ≤ is ∧ is ≤ 9 ∧ is = h + 1 ∧ NV (YH Y f is) (Y.1 4) (Y.1 3) (Y.2 4) n f ∧ ∀ g : Int, is < g → g ≤ 9 → ¬ NV (YH Y f g) (Y.1 4) (Y.1 3) (Y.2 4) n f)) → KW (xw ad ta sa ca D cI cT cS) G H0 m 7 S 47 [(0, .ref (ad 0)), (1, .int (iI f)), (2, .int (iI n)), (3, .ref (ta f)), (4, .int (iI (Y.2 1 f))), (5, .int (iI is)), (6, .int (iI h))] [] := by
        intro fu47
        induction fu47 with
        | zero =>
          intro S is h q0 q1 e1 e2 e3 hs
          omega
        | succ fu47 ih47 =>
          intro S is h q0 q1 e1 e2 e3 hs
          have ris : -9 ≤ is ∧ is ≤ 9 := by rcases hs with h5 | h5 <;> omega
          refine k_iload hE dX6_highest_47 6 rfl ?_
          refine k_if_lt hE 94 dX6_highest_49 (by decide) (by unfold in32; omega) (fun c49 => ?_) (fun c49 => ?_)
          · refine k_aload_n hE dX6_highest_94 3 rfl rfl ?_
            refine k_iload hE dX6_highest_95 4 rfl ?_
            refine x_put_X3_height hE (by omega) (by omega) fl_X6_91 dX6_highest_97 ?_
            refine k_st ((S.1, ur S.2 1 f (Y.2 1 f))) rfl ?_
            refine k_iload hE dX6_highest_100 5 rfl ?_
            refine k_iret hR dX6_highest_102 rfl ?_
            refine ⟨is, _, rfl, rfl, Or.inr (Or.inr ⟨w1, w2, ?_⟩), ⟨e1, fun a ha => ?_⟩⟩
            · rcases hs with h5 | h5
              · exact Or.inl ⟨h5.1, fun g g0 g1 => h5.2 g (by omega) g1⟩
              · exact Or.inr ⟨h5.1, h5.2.1, h5.2.2.2.1, h5.2.2.2.2⟩
            · show ur S.2 1 f (Y.2 1 f) a = st.2 a
              by_cases e : a = 1
              · rw [e]; funext j; rw [ur_c]
                by_cases ej : j = f
                · rw [if_pos ej, ej]; exact (congrFun (hA.2 1 (by decide)) f).symm
                · rw [if_neg ej]; exact e3 j ej
              · rw [ur_n _ _ _ e]; exact e2 a e ha
          · refine k_iload hE dX6_highest_52 5 rfl ?_
            refine k_bipush hE dX6_highest_54 rfl ?_
            refine k_icmp_ne hE 94 dX6_highest_56 (by decide) (by unfold in32; omega) (by unfold in32; omega) (fun c56 => ?_) (fun c56 => ?_)
            · refine k_aload_n hE dX6_highest_94 3 rfl rfl ?_
              refine k_iload hE dX6_highest_95 4 rfl ?_
              refine x_put_X3_height hE (by omega) (by omega) fl_X6_91 dX6_highest_97 ?_
              refine k_st ((S.1, ur S.2 1 f (Y.2 1 f))) rfl ?_
              refine k_iload hE dX6_highest_100 5 rfl ?_
              refine k_iret hR dX6_highest_102 rfl ?_
              refine ⟨is, _, rfl, rfl, Or.inr (Or.inr ⟨w1, w2, ?_⟩), ⟨e1, fun a ha => ?_⟩⟩
              · rcases hs with h5 | h5
                · exact Or.inl ⟨h5.1, fun g g0 g1 => h5.2 g (by omega) g1⟩
                · exact Or.inr ⟨h5.1, h5.2.1, h5.2.2.2.1, h5.2.2.2.2⟩
              · show ur S.2 1 f (Y.2 1 f) a = st.2 a
                by_cases e : a = 1
                · rw [e]; funext j; rw [ur_c]
                  by_cases ej : j = f
                  · rw [if_pos ej, ej]; exact (congrFun (hA.2 1 (by decide)) f).symm
                  · rw [if_neg ej]; exact e3 j ej
                · rw [ur_n _ _ _ e]; exact e2 a e ha
            · refine k_aload_n hE dX6_highest_59 3 rfl rfl ?_
              refine k_iload hE dX6_highest_60 6 rfl ?_
              refine x_put_X3_height hE (by omega) (by omega) fl_X6_91 dX6_highest_62 ?_
              refine k_st ((S.1, ur S.2 1 f h)) rfl ?_
              refine k_nm (fun S3 eS3 => ?_)
              have hA3 : Ag S3 (YH Y f h) := ⟨fun i hi => by rw [eS3]; exact (e1 i (by omega)).trans (hA.1 i hi), fun a ha => by
                rw [eS3]
                show ur S.2 1 f h a = ur Y.2 1 f h a
                by_cases e : a = 1
                · rw [e]; funext j; rw [ur_c, ur_c]
                  by_cases ej : j = f
                  · rw [if_pos ej, if_pos ej]
                  · rw [if_neg ej, if_neg ej, e3 j ej]; exact congrFun (hA.2 1 (by decide)) j
                · rw [ur_n _ _ _ e, ur_n _ _ _ e, e2 a e (by omega)]; exact hA.2 a ha⟩
              have hI3 := YH_Inv hI (f := f) (h := h) (by omega)
              refine k_aload_n hE dX6_highest_65 0 rfl rfl ?_
              refine k_iload_n hE dX6_highest_66 2 rfl rfl ?_
              refine k_callV hE (c_X6_passAsTold S3 (YH Y f h) n hA3 hI3 (by omega)) mf_X6_passAsTold ml_X6_134 0 rfl rfl rfl rfl ⟨rfl, rfl, Nat.le_of_ble_eq_true rfl, Nat.le_of_ble_eq_true rfl⟩ [] (Nat.le_of_ble_eq_true rfl) dX6_highest_67 rfl (fun rv u hp => ?_)
              obtain ⟨S4, hv67, hu67, hx_67, hr_67, hO_67, er_67⟩ := hp
              refine k_sk (sk' := []) (by rw [hv67]; rfl) ?_
              refine k_st S4 hu67 ?_
              have er : Ran (YH Y f h) (Y.1 4) (Y.1 3) (Y.2 4) S4.2 n.toNat 9 10 11 := er_67
              refine k_aload_n hE dX6_highest_70 0 rfl rfl ?_
              refine x_get_X6_days hE fl_X6_23 dX6_highest_71 ?_
              refine k_iload_n hE dX6_highest_74 1 rfl rfl ?_
              refine k_iload_n hE dX6_highest_75 2 rfl rfl ?_
              refine k_callV hE (c_X0_firstDry S4 (YH Y f h) f n (hx_67.ag hA3) hI3 (by omega) (by omega) (by omega) (fun k k0 k1 => by have hg := Ran_gD er_67 (f := f) (k := k) (by omega) (show f < Y.1 0 by omega) (by omega) (by omega); omega)) mf_X0_firstDry ml_X6_151 4 rfl rfl rfl rfl ⟨rfl, rfl, Nat.le_of_ble_eq_true rfl, Nat.le_of_ble_eq_true rfl⟩ [] (Nat.le_of_ble_eq_true rfl) dX6_highest_76 rfl (fun rv u hp => ?_)
              obtain ⟨zz, hv76, hu76, hz_76⟩ := hp
              refine k_sk (sk' := [.int (iI zz)]) (by rw [hv76]; rfl) ?_
              refine k_st S4 hu76 ?_
              have rz : -9 ≤ zz ∧ zz ≤ 10 := by rcases hz_76 with h5 | h5 <;> omega
              have hP : zz = -9 ↔ NV (YH Y f h) (Y.1 4) (Y.1 3) (Y.2 4) n f := (FD_none hz_76).trans ⟨fun h5 k k0 k1 => by rw [← (Ran_gD er (f := f) (by omega) (show f < Y.1 0 by omega) k0 (by omega)).1]; exact h5 k k0 k1, fun h5 k k0 k1 => by show Y.2 2 f ≤ S4.2 11 (k * 6 + f); rw [(Ran_gD er (f := f) (by omega) (show f < Y.1 0 by omega) k0 (by omega)).1]; exact h5 k k0 k1⟩
              refine k_bipush hE dX6_highest_79 rfl ?_
              refine k_icmp_ne hE 88 dX6_highest_81 (by decide) (by unfold in32; omega) (by unfold in32; omega) (fun c81 => ?_) (fun c81 => ?_)
              · refine k_iinc hE dX6_highest_88 6 [1, 2, 3, 4, 5, 6, 0] rfl (Nat.le_of_ble_eq_true rfl) (lo' := [(0, .ref (ad 0)), (1, .int (iI f)), (2, .int (iI n)), (3, .ref (ta f)), (4, .int (iI (Y.2 1 f))), (5, .int (iI is)), (6, .int (iI (h + (-1))))]) rfl ?_
                refine k_goto hE 47 dX6_highest_91 (by decide) ?_
                refine ih47 S4 _ _ (by omega) (by omega) (fun i hi => by rw [hx_67.1 i hi, eS3]; exact e1 i hi) (fun a ha hb => by rw [hx_67.2 a hb, eS3]; show ur S.2 1 f h a = _; rw [ur_n _ _ _ ha]; exact e2 a ha hb) (fun j hj => by rw [hx_67.2 1 (by decide), eS3]; show ur S.2 1 f h 1 j = _; rw [ur_o _ _ _ hj]; exact e3 j hj) ?_
                have hn0 : ∀ g : Int, h < g → g ≤ 9 → ¬ NV (YH Y f g) (Y.1 4) (Y.1 3) (Y.2 4) n f := by
                  rcases hs with h5 | h5
                  · exact h5.2
                  · omega
                first
                  | exact Or.inr ⟨by omega, by omega, by omega, hP.mp (by omega), hn0⟩
                  | (refine Or.inl ⟨by omega, fun g g0 g1 => ?_⟩
                     by_cases e : g = h
                     · rw [e]; exact fun hh => absurd (hP.mpr hh) (by omega)
                     · exact hn0 g (by omega) g1)
              · refine k_iload hE dX6_highest_84 6 rfl ?_
                refine k_istore hE dX6_highest_86 [1, 2, 3, 4, 5, 0, 6] (Nat.le_of_ble_eq_true rfl) (lo' := [(0, .ref (ad 0)), (1, .int (iI f)), (2, .int (iI n)), (3, .ref (ta f)), (4, .int (iI (Y.2 1 f))), (5, .int (iI h)), (6, .int (iI h))]) rfl ?_
                refine k_iinc hE dX6_highest_88 6 [1, 2, 3, 4, 5, 6, 0] rfl (Nat.le_of_ble_eq_true rfl) (lo' := [(0, .ref (ad 0)), (1, .int (iI f)), (2, .int (iI n)), (3, .ref (ta f)), (4, .int (iI (Y.2 1 f))), (5, .int (iI h)), (6, .int (iI (h + (-1))))]) rfl ?_
                refine k_goto hE 47 dX6_highest_91 (by decide) ?_
                refine ih47 S4 _ _ (by omega) (by omega) (fun i hi => by rw [hx_67.1 i hi, eS3]; exact e1 i hi) (fun a ha hb => by rw [hx_67.2 a hb, eS3]; show ur S.2 1 f h a = _; rw [ur_n _ _ _ ha]; exact e2 a ha hb) (fun j hj => by rw [hx_67.2 1 (by decide), eS3]; show ur S.2 1 f h 1 j = _; rw [ur_o _ _ _ hj]; exact e3 j hj) ?_
                have hn0 : ∀ g : Int, h < g → g ≤ 9 → ¬ NV (YH Y f g) (Y.1 4) (Y.1 3) (Y.2 4) n f := by
                  rcases hs with h5 | h5
                  · exact h5.2
                  · omega
                first
                  | exact Or.inr ⟨by omega, by omega, by omega, hP.mp (by omega), hn0⟩
                  | (refine Or.inl ⟨by omega, fun g g0 g1 => ?_⟩
                     by_cases e : g = h
                     · rw [e]; exact fun hh => absurd (hP.mpr hh) (by omega)
                     · exact hn0 g (by omega) g1)
      exact L47 11 st (-9) 9 (by omega) (by omega) (fun i _ => rfl) (fun a _ _ => rfl) (fun j _ => rfl) (Or.inl ⟨rfl, fun g g0 g1 => by omega⟩)
    · refine k_bipush hE dX6_highest_20 rfl ?_
      exact k_iret hR dX6_highest_22 rfl ⟨_, st, rfl, rfl, Or.inr (Or.inl ⟨by omega, by omega, rfl⟩), XS.refl st⟩
  · refine k_iconst hE dX6_highest_8 ?_
    exact k_iret hR dX6_highest_9 rfl ⟨_, st, rfl, rfl, Or.inl ⟨by omega, rfl⟩, XS.refl st⟩

set_option maxHeartbeats 4000000 in
set_option maxRecDepth 100000 in
theorem c_X6_mark {ad : Nat → Nat} {ta sa ca : Int → Nat} {D : va_G} {cI cT cS : ClassId} (st : Sg) (Y : Sg) (d : Int) (v : Int) (hA : Ag st Y) (hI : Inv Y) (i_d : -2147483648 ≤ d ∧ d < 2147483648) (i_v : -2147483648 ≤ v ∧ v < 2147483648) : MC (xw ad ta sa ca D cI cT cS) yX6_mark cX6_mark 3 (some .int) { frames := 1, cells := 0, slots := 0, locals := 23 } [.ref (ad 0), .int (iI d), .int (iI v)] st (fun rv u => ∃ z : Int, ∃ S : Sg, rv = some (.int (iI (z))) ∧ u = S ∧ (((d < 0 ∨ 10 < d) ∧ z = -1 ∧ S = st) ∨ (¬ (d < 0 ∨ 10 < d) ∧ (v < 0 ∨ 99 < v) ∧ z = -2 ∧ S = st) ∨ (¬ (d < 0 ∨ 10 < d) ∧ ¬ (v < 0 ∨ 99 < v) ∧ Y.1 0 = 0 ∧ z = -3 ∧ S = st) ∨ (¬ (d < 0 ∨ 10 < d) ∧ ¬ (v < 0 ∨ 99 < v) ∧ Y.1 0 ≠ 0 ∧ 8 ≤ Y.1 7 ∧ z = -4 ∧ S = st) ∨ (¬ (d < 0 ∨ 10 < d) ∧ ¬ (v < 0 ∨ 99 < v) ∧ Y.1 0 ≠ 0 ∧ ¬ 8 ≤ Y.1 7 ∧ z = Y.1 7 ∧ S = (uv st.1 7 (st.1 7 + 1), ur (ur st.2 5 (st.1 7) d) 6 (st.1 7) v)))) := by
  refine MC_intro RX6 (by decide) rfl (Nat.le_of_ble_eq_true rfl) ?_
  intro G H0 m hE hR
  refine k_lo [0, 1, 2] (lo' := [(0, .ref (ad 0)), (1, .int (iI d)), (2, .int (iI v))]) rfl ?_
  obtain ⟨hi0, hi1, hi2, hi3, hi4, hi5, hi6, hi7, hit, hir, him, hin⟩ := id hI
  refine k_iconst hE dX6_mark_0 ?_
  refine k_iload_n hE dX6_mark_1 1 rfl rfl ?_
  refine k_bipush hE dX6_mark_2 rfl ?_
  refine k_callS hE (c_X6_isNot st 0 d 10 (by omega) (by omega) (by omega)) ms_X6_isNot ml_X6_104 rfl ⟨rfl, rfl, Nat.le_of_ble_eq_true rfl, Nat.le_of_ble_eq_true rfl⟩ [] (Nat.le_of_ble_eq_true rfl) dX6_mark_4 rfl (fun rv u hp => ?_)
  obtain ⟨z1, hv4, hu4, hz_4⟩ := hp
  refine k_sk (sk' := [.int (iI z1)]) (by rw [hv4]; rfl) ?_
  refine k_st st hu4 ?_
  refine k_if_eq hE 12 dX6_mark_7 (by decide) (by unfold in32; omega) (fun c7 => ?_) (fun c7 => ?_)
  · refine k_iconst hE dX6_mark_12 ?_
    refine k_iload_n hE dX6_mark_13 2 rfl rfl ?_
    refine k_bipush hE dX6_mark_14 rfl ?_
    refine k_callS hE (c_X6_isNot st 0 v 99 (by omega) (by omega) (by omega)) ms_X6_isNot ml_X6_104 rfl ⟨rfl, rfl, Nat.le_of_ble_eq_true rfl, Nat.le_of_ble_eq_true rfl⟩ [] (Nat.le_of_ble_eq_true rfl) dX6_mark_16 rfl (fun rv u hp => ?_)
    obtain ⟨z2, hv16, hu16, hz_16⟩ := hp
    refine k_sk (sk' := [.int (iI z2)]) (by rw [hv16]; rfl) ?_
    refine k_st st hu16 ?_
    refine k_if_eq hE 25 dX6_mark_19 (by decide) (by unfold in32; omega) (fun c19 => ?_) (fun c19 => ?_)
    · refine k_aload_n hE dX6_mark_25 0 rfl rfl ?_
      refine k_callV hE (c_X6_noYard st Y hA hI) mf_X6_noYard ml_X6_108 0 rfl rfl rfl rfl ⟨rfl, rfl, Nat.le_of_ble_eq_true rfl, Nat.le_of_ble_eq_true rfl⟩ [] (Nat.le_of_ble_eq_true rfl) dX6_mark_26 rfl (fun rv u hp => ?_)
      obtain ⟨z3, hv26, hu26, hz_26⟩ := hp
      refine k_sk (sk' := [.int (iI z3)]) (by rw [hv26]; rfl) ?_
      refine k_st st hu26 ?_
      refine k_if_eq hE 35 dX6_mark_29 (by decide) (by unfold in32; omega) (fun c29 => ?_) (fun c29 => ?_)
      · refine k_aload_n hE dX6_mark_35 0 rfl rfl ?_
        refine x_get_X6_marks hE fl_X6_30 dX6_mark_36 ?_
        refine x_get_X1_count hE (z := Y.1 7) (hA.1 7 (by decide)) fl_X6_73 dX6_mark_39 ?_
        refine k_bipush hE dX6_mark_42 rfl ?_
        refine k_icmp_lt hE 50 dX6_mark_44 (by decide) (by unfold in32; omega) (by unfold in32; omega) (fun c44 => ?_) (fun c44 => ?_)
        · have hm7 := hA.1 7 (by decide)
          refine k_aload_n hE dX6_mark_50 0 rfl rfl ?_
          refine x_get_X6_marks hE fl_X6_30 dX6_mark_51 ?_
          refine k_iload_n hE dX6_mark_54 1 rfl rfl ?_
          refine k_iload_n hE dX6_mark_55 2 rfl rfl ?_
          refine k_callV hE (c_X1_addOne st d v (by omega)) mf_X1_addOne ml_X6_179 9 rfl rfl rfl rfl ⟨rfl, rfl, Nat.le_of_ble_eq_true rfl, Nat.le_of_ble_eq_true rfl⟩ [] (Nat.le_of_ble_eq_true rfl) dX6_mark_56 rfl (fun rv u hp => ?_)
          obtain ⟨hv56, hu56⟩ := hp
          refine k_sk (sk' := [.int (iI (st.1 7))]) (by rw [hv56]; rfl) ?_
          refine k_st ((uv st.1 7 (st.1 7 + 1), ur (ur st.2 5 (st.1 7) d) 6 (st.1 7) v)) hu56 ?_
          exact k_iret hR dX6_mark_59 rfl ⟨_, _, rfl, rfl, Or.inr (Or.inr (Or.inr (Or.inr ⟨by omega, by omega, by omega, by omega, hm7, rfl⟩)))⟩
        · refine k_bipush hE dX6_mark_47 rfl ?_
          exact k_iret hR dX6_mark_49 rfl ⟨_, _, rfl, rfl, Or.inr (Or.inr (Or.inr (Or.inl ⟨by omega, by omega, by omega, by omega, rfl, rfl⟩)))⟩
      · refine k_bipush hE dX6_mark_32 rfl ?_
        exact k_iret hR dX6_mark_34 rfl ⟨_, _, rfl, rfl, Or.inr (Or.inr (Or.inl ⟨by omega, by omega, by omega, rfl, rfl⟩))⟩
    · refine k_bipush hE dX6_mark_22 rfl ?_
      exact k_iret hR dX6_mark_24 rfl ⟨_, _, rfl, rfl, Or.inr (Or.inl ⟨by omega, by omega, rfl, rfl⟩)⟩
  · refine k_iconst hE dX6_mark_10 ?_
    exact k_iret hR dX6_mark_11 rfl ⟨_, _, rfl, rfl, Or.inl ⟨by omega, rfl, rfl⟩⟩

set_option maxHeartbeats 4000000 in
set_option maxRecDepth 100000 in
theorem c_X6_back {ad : Nat → Nat} {ta sa ca : Int → Nat} {D : va_G} {cI cT cS : ClassId} (st : Sg) (Y : Sg) (k : Int) (hA : Ag st Y) (hI : Inv Y) (i_k : -2147483648 ≤ k ∧ k < 2147483648) : MC (xw ad ta sa ca D cI cT cS) yX6_back cX6_back 2 (some .int) { frames := 1, cells := 0, slots := 0, locals := 22 } [.ref (ad 0), .int (iI k)] st (fun rv u => ∃ z : Int, ∃ S : Sg, rv = some (.int (iI (z))) ∧ u = S ∧ (((k < 0 ∨ Y.1 7 < k) ∧ z = -2 ∧ S = st) ∨ (¬ (k < 0 ∨ Y.1 7 < k) ∧ z = Y.1 7 - k ∧ S = (uv st.1 7 (Y.1 7 - k), st.2)))) := by
  refine MC_intro RX6 (by decide) rfl (Nat.le_of_ble_eq_true rfl) ?_
  intro G H0 m hE hR
  refine k_lo [0, 1] (lo' := [(0, .ref (ad 0)), (1, .int (iI k))]) rfl ?_
  obtain ⟨hi0, hi1, hi2, hi3, hi4, hi5, hi6, hi7, hit, hir, him, hin⟩ := id hI
  refine k_iconst hE dX6_back_0 ?_
  refine k_iload_n hE dX6_back_1 1 rfl rfl ?_
  refine k_aload_n hE dX6_back_2 0 rfl rfl ?_
  refine x_get_X6_marks hE fl_X6_30 dX6_back_3 ?_
  refine x_get_X1_count hE (z := Y.1 7) (hA.1 7 (by decide)) fl_X6_73 dX6_back_6 ?_
  refine k_callS hE (c_X6_isNot st 0 k (Y.1 7) (by omega) (by omega) (by omega)) ms_X6_isNot ml_X6_104 rfl ⟨rfl, rfl, Nat.le_of_ble_eq_true rfl, Nat.le_of_ble_eq_true rfl⟩ [] (Nat.le_of_ble_eq_true rfl) dX6_back_9 rfl (fun rv u hp => ?_)
  obtain ⟨z1, hv9, hu9, hz_9⟩ := hp
  refine k_sk (sk' := [.int (iI z1)]) (by rw [hv9]; rfl) ?_
  refine k_st st hu9 ?_
  refine k_if_eq hE 18 dX6_back_12 (by decide) (by unfold in32; omega) (fun c12 => ?_) (fun c12 => ?_)
  · refine k_aload_n hE dX6_back_18 0 rfl rfl ?_
    refine x_get_X6_marks hE fl_X6_30 dX6_back_19 ?_
    refine k_dup hE dX6_back_22 rfl ?_
    refine x_get_X1_count hE (z := Y.1 7) (hA.1 7 (by decide)) fl_X6_73 dX6_back_23 ?_
    refine k_iload_n hE dX6_back_26 1 rfl rfl ?_
    refine k_isub hE dX6_back_27 ?_
    refine x_put_X1_count hE fl_X6_73 dX6_back_28 ?_
    refine k_st ((uv st.1 7 ((Y.1 7) - k), st.2)) rfl ?_
    refine k_aload_n hE dX6_back_31 0 rfl rfl ?_
    refine x_get_X6_marks hE fl_X6_30 dX6_back_32 ?_
    refine x_get_X1_count hE (z := (Y.1 7) - k) rfl fl_X6_73 dX6_back_35 ?_
    exact k_iret hR dX6_back_38 rfl ⟨_, _, rfl, rfl, Or.inr ⟨by omega, rfl, rfl⟩⟩
  · refine k_bipush hE dX6_back_15 rfl ?_
    exact k_iret hR dX6_back_17 rfl ⟨_, _, rfl, rfl, Or.inl ⟨by omega, rfl, rfl⟩⟩
end
