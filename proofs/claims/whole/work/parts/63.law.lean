/-! THE CLAIM OUT OF ONE WALK OF THE LAW'S BODY. Your part is whole_start (and what it stands on); all else here is the same for every law, but numbers. -/
def R_law : String := "BarrelTapsLaw"
def lw_P (b : Addr) (xs : List Int32) (args : Array Value) (s : State) : Prop := args = #[.ref b] ∧ s.IntsAt b xs ∧ xs.length ≤ 3072 ∧ (Jvm.Cond.and given_1 narrow_1).before args s = true
def lw_Q (_ : Array Value) (s : State) (o : Outcome) (t : State) : Prop := o = .returned (some (.int 1)) ∧ Framed s o t [] 600000 7302250
def lw_Z (below : List Frame) (a : Array Value) (s : State) : State → Prop := fun t => ∃ o, t.status = .running ∧ Ended t below o ∧ lw_Q a s o t
/-- the law's own end, with 1 on the stack, nothing written that was there before, its room as the claim has it -/
theorem lw_ret {p : Program} {l : Launch} {e : Env} {s : State} {m : MethodId} {below : List Frame} {meth : Method} {c : Code} {b : Nat} (hx : p.tables.exec = Jvm.exec) (hb : c.code = code) (hr : meth.sig.returnType = ret) (hlocks : meth.locks = false) {pc : Nat} {H : Heap} {ls : Array Slot} (hdg : decode code pc = .ok (.ireturn, 1)) : W p l e room_1 s m #[Value.ref b] below meth c H [] 600000 7302250 (lw_Z below #[Value.ref b] s) (F0 m pc ls [.int 1]) := by
  intro T hT X
  obtain ⟨fs, hret, hrun, hended, hW, hframe⟩ := X.leave (v := some (.int 1)) (hlocks := hlocks) (fun h => by rw [hr] at h; cases h)
  have hmeth' : T.vm.method? m = some meth := X.method'
  refine ⟨T.setFrames fs, ?_, .returned (some (.int 1)), hrun, hended, rfl, ⟨_, rfl⟩, hW, hframe⟩
  jvm_step X.here [X.here.top, hx, hb, hdg, hmeth', hr, ret, narrow_b1]
  (try refine ⟨rfl, ?_⟩); (try refine ⟨rfl, ?_⟩)
  first | (intro acts; rw [hret _ acts rfl rfl rfl]) | rw [hret _ _ rfl rfl rfl]
  exact Steps.refl _
/-- what holds at the law's entry: the machine, the code, the tables' words (any of lw_tbl by 'hts w (by decide +kernel)'), the script of L ints xs at the cell b, what the Statement gives of the start (any of its parts by flat_of_before) -/
def lw_At (p : Program) (s : State) (m : MethodId) (meth : Method) (c : Code) (b L : Nat) (xs : Nat → Int32) : Prop :=
  p.tables.exec = Jvm.exec ∧ c.code = code ∧ meth.sig.returnType = ret ∧ c.maxLocals = 4 ∧ s.vm.findClass R_law = some m.cls ∧ (∀ w ∈ lw_tbl, w.before #[Value.ref b] s = true) ∧ va_X b L xs s s.heap ∧ b < s.heap.size ∧ meth.locks = false ∧ (Jvm.Cond.and given_1 narrow_1).before #[Value.ref b] s = true
theorem Z_RL : RLx Z0 Zm := by
  refine ⟨?_, ?_, ?_, ?_, ⟨rfl, rfl⟩, ?_, ?_, ?_, ⟨rfl, rfl⟩⟩
  · refine ⟨by decide, by decide, by decide, by decide, by decide, by decide, by decide, by decide, fun _ _ _ => show ((0 : Int) ≤ 0 ∧ (0 : Int) ≤ 2) ∧ ((0 : Int) ≤ 0 ∧ (0 : Int) ≤ 9) ∧ ((0 : Int) ≤ 0 ∧ (0 : Int) ≤ 9) ∧ ((0 : Int) ≤ 0 ∧ (0 : Int) ≤ 9) by decide, fun _ _ _ => show ((0 : Int) ≤ 0 ∧ (0 : Int) ≤ 99) by decide, fun _ _ _ => show ((0 : Int) ≤ 0 ∧ (0 : Int) ≤ 10) ∧ ((0 : Int) ≤ 0 ∧ (0 : Int) ≤ 99) by decide, fun f h0 h1 => ?_⟩
    have h2 : f < 0 := h1
    omega
  · exact ⟨fun _ _ _ => show ((-1 : Int) ≤ -1 ∧ (-1 : Int) ≤ 2) ∧ ((0 : Int) ≤ 0 ∧ (0 : Int) ≤ 60) by decide, fun _ j _ _ h0 h1 => by
      have h2 : j < 0 := h1
      omega⟩
  · exact ⟨fun _ _ _ => show ((-9 : Int) = -9 ∨ ((0 : Int) ≤ -9 ∧ (-9 : Int) ≤ 2)) ∧ ((0 : Int) ≤ 0 ∧ (0 : Int) ≤ 60) by decide, fun _ j _ _ h0 h1 => by
      have h2 : j < 0 := h1
      omega⟩
  · refine ⟨fun i hi => ?_, fun a ha => ?_⟩
    · show (if i = 16 then (-9 : Int) else 0) = 0
      rw [if_neg (by omega)]
    · funext j
      show (if a = 9 then (-9 : Int) else 0) = (if a = 7 then (-1 : Int) else 0)
      rw [if_neg (by omega), if_neg (by omega)]
  · rfl
  · intro k k0 k1; rfl
  · intro k j _ _ h0 h1
    have h2 : j < 0 := h1
    omega
theorem iI_nat {L : Nat} (h : L ≤ 3072) : Int32.ofNat L = iI (L : Int) := by
  unfold iI
  first | rfl | exact Int32.ofInt_eq_ofNat.symm | (apply Int32.toInt_inj.mp; simp)
theorem arr_int {args : Array Value} {s : State} {ty : FieldType} (h : (Cond.arrayClass ty).before args s = true) (hr : ∀ cA : ClassId, s.vm.findClass ("[" ++ ty.toString) = some cA → va_RA s cA ty) : ∃ cA : ClassId, ArrOfT s cA ty ∧ va_RA s cA ty := by
  obtain ⟨cA, kA, comp, h1, h2, h3⟩ := Cond.arrayClass_spec h
  exact ⟨cA, fun n z => ⟨fun k h => (by cases h), kA, h2, comp, h3⟩, hr cA h1⟩
theorem arr_obj {args : Array Value} {s : State} {C : String} (h : (Cond.arrayOver (.object C)).before args s = true) : ∃ cA : ClassId, ArrOfT s cA (.object C) ∧ va_RA s cA (.object C) := by
  obtain ⟨comp, cA, kA, h1, h2, h3, h4, h5⟩ := Cond.arrayOver_spec h
  exact ⟨cA, fun n z => ⟨fun k h => (by cases h), kA, h3, comp, h4⟩, kA, comp, h3, h4, h1, h5⟩
theorem tb_ao1 : Cond.arrayOver (.object "BarrelTaps$Tap") ∈ lw_tbl := by decide +kernel
theorem tb_ao2 : Cond.arrayOver (.object "BarrelTaps$Sheet") ∈ lw_tbl := by decide +kernel
theorem tb_n1 : Cond.methodLinkNest RX5 21 yX3_init RX6 ∈ lw_tbl := by decide +kernel
theorem tb_n2 : Cond.methodLinkNest RX6 29 yX1_init RX6 ∈ lw_tbl := by decide +kernel
theorem tb_n3 : Cond.methodLinkNest RX6 40 yX2_init RX6 ∈ lw_tbl := by decide +kernel
/-- what the tables say of the classes and the arrays -/
theorem law_K {args : Array Value} {s : State} (hts : ∀ w ∈ lw_tbl, w.before args s = true) : ∃ (D : va_G) (cI cT cS cZ : ClassId), va_K D vwCl (tyA cI cT cS cZ) s ∧ KX s := by
  have htg : ∀ v ∈ lw_gt, v.before args s = true := fun v hv => hts v (List.mem_filter.mp hv).1
  obtain ⟨c0, i0, k0⟩ := u_known (C := RX0) (T := TX0) (N := 6) (n := 6) htg uw_X0 (htg _ in_X0)
  obtain ⟨c1, i1, k1⟩ := u_known (C := RX1) (T := TX1) (N := 3) (n := 3) htg uw_X1 (htg _ in_X1)
  obtain ⟨c2, i2, k2⟩ := u_known (C := RX2) (T := TX2) (N := 3) (n := 3) htg uw_X2 (htg _ in_X2)
  obtain ⟨c3, i3, k3⟩ := u_known (C := RX3) (T := TX3) (N := 4) (n := 4) htg uw_X3 (htg _ in_X3)
  obtain ⟨c5, i5, k5⟩ := u_known (C := RX5) (T := TX5) (N := 9) (n := 9) htg uw_X5 (htg _ in_X5)
  obtain ⟨c6, i6, k6⟩ := u_known (C := RX6) (T := TX6) (N := 6) (n := 6) htg uw_X6 (htg _ in_X6)
  obtain ⟨c7, i7, k7⟩ := u_known (C := RX7) (T := TX7) (N := 38) (n := 38) htg uw_X7 (htg _ in_X7)
  obtain ⟨cI, aI, rI0⟩ := arr_int (htg _ w_ai) (fun _ h => h)
  obtain ⟨cZ, aZ, rZ⟩ := arr_int (htg _ w_az) (fun _ h => h)
  obtain ⟨cT, aT, rT⟩ := arr_obj (hts _ tb_ao1)
  obtain ⟨cS, aS, rS⟩ := arr_obj (hts _ tb_ao2)
  refine ⟨(fun k => [c0, c1, c2, c3, c5, c6, c7].getD k c0, fun k => [i0, i1, i2, i3, i5, i6, i7].getD k i0), cI, cT, cS, cZ, ⟨?_, ?_⟩, va_AO.of (hts _ tb_ao1), va_AO.of (hts _ tb_ao2), va_Nw.of rfl (hts _ tb_n1), va_Nw.of rfl (hts _ tb_n2), va_Nw.of rfl (hts _ tb_n3)⟩
  · intro k q hq
    match k, hq with
    | 0, hq => cases hq; exact k0
    | 1, hq => cases hq; exact k1
    | 2, hq => cases hq; exact k2
    | 3, hq => cases hq; exact k3
    | 4, hq => cases hq; exact k5
    | 5, hq => cases hq; exact k6
    | 6, hq => cases hq; exact k7
    | k + 7, hq => simp [vwCl] at hq
  · intro k q hq
    match k, hq with
    | 0, hq => cases hq; exact ⟨aI, rI0⟩
    | 1, hq => cases hq; exact ⟨aT, rT⟩
    | 2, hq => cases hq; exact ⟨aS, rS⟩
    | 3, hq => cases hq; exact ⟨aI, rI0⟩
    | 4, hq => cases hq; exact ⟨aZ, rZ⟩
    | k + 5, hq => simp at hq
