/-! constructors: worlds that grow -/
/-- what else the constructors ask of the tables -/
def KX (U : State) : Prop := va_AO "BarrelTaps$Tap" U ∧ va_AO "BarrelTaps$Sheet" U ∧ va_Nw (.methodLinkNest RX5 21 yX3_init RX6) U ∧ va_Nw (.methodLinkNest RX6 29 yX1_init RX6) U ∧ va_Nw (.methodLinkNest RX6 40 yX2_init RX6) U
theorem KX.warm {s U : State} (hW : s.WarmedH U.vm) (h : KX s) : KX U := ⟨va_AO.moved hW.alike h.1, va_AO.moved hW.alike h.2.1, va_Nw.warmM hW h.2.2.1, va_Nw.warmM hW h.2.2.2.1, va_Nw.warmM hW h.2.2.2.2⟩
theorem KX.same {s U : State} (e : s.vm = U.vm) (h : KX s) : KX U := ⟨va_AO.moved (by rw [e]; exact Vm.Alike.refl _) h.1, va_AO.moved (by rw [e]; exact Vm.Alike.refl _) h.2.1, va_Nw.same rfl e h.2.2.1, va_Nw.same rfl e h.2.2.2.1, va_Nw.same rfl e h.2.2.2.2⟩
theorem RA_uni {U : State} {c c' : ClassId} {ty : FieldType} (h : va_RA U c ty) (h' : va_RA U c' ty) : c = c' := by
  cases ty with
  | object C =>
    obtain ⟨_, _, _, _, _, h4⟩ := h
    obtain ⟨_, _, _, _, _, g4⟩ := h'
    exact Option.some.inj (h4.symm.trans g4)
  | _ => exact Option.some.inj (Eq.trans (Eq.symm h) h')
theorem arr_cong {cA : ClassId} {N : Nat} {f g : Nat → Value} (h : ∀ j, j < N → f j = g j) : arrV cA N f = arrV cA N g := by
  unfold arrV
  congr 1
  congr 1
  funext j
  exact h j.1 j.2
def NE (D : va_G) (tys : List (ClassId × FieldType)) (A : Nat → Prop) (GF : Nat → Nat → Heap → List Loc → JFrame → Prop) (H0 : Heap) (m : MethodId) (cc : ByteArray) (own : String) (nL : Nat) (R : Room) (ini : Bool) : Prop :=
  ∃ (p : Program) (l : Launch) (e : Env) (s : State) (args : Array Value) (below : List Frame) (meth : Method) (c : Code) (Q : State → Prop),
    GF = (fun cells slots H locs g => W p l e R s m args below meth c H locs cells slots Q g) ∧ H0 = s.heap ∧ p.tables.exec = Jvm.exec ∧ c.code = cc ∧ c.maxLocals = nL ∧ s.vm.findClass own = some m.cls ∧ (∀ v ∈ lw_gt, v.before args s = true) ∧ va_K D vwCl tys s ∧ KX s ∧ (∀ q, s.heap.size ≤ q → A q) ∧ (ini = true → meth.name = "<init>")
def NW (D : va_G) (A : Nat → Prop) (GF : Nat → Nat → Heap → List Loc → JFrame → Prop) (H0 : Heap) (m : MethodId) (nL cells slots : Nat) (ws : va_W) (pc : Nat) (lo : List (Nat × Value)) (sk : List Value) : Prop :=
  ∀ (H : Heap) (locs : List Loc) (ls : Array Slot), va_P D vwCl ws H → va_D A ws → va_S A H0 H locs → lv_has ls nL lo → GF cells slots H locs (F0 m pc ls sk)
/-- a constructor's contract -/
def CM (y : MethodName) (cc : ByteArray) (nL : Nat) (R : Room) (av : List Value) (ws0 : va_W) (D : va_G) (tys : List (ClassId × FieldType)) {S : Type} (post : S → Prop) (Wf : S → va_W) (mc ms : Nat) : Prop :=
  ∀ (l : Launch) (sz : Nat), Met l y (.code y cc nL none :: lw_gt) R (va_Pc av (fun U => U.heap.size = sz ∧ va_P D vwCl ws0 U.heap ∧ va_K D vwCl tys U ∧ KX U ∧ va_D (fun _ => True) ws0)) (va_Qv post (fun u t => va_P D vwCl (Wf u) t.heap ∧ va_D (va_A ws0 sz) (Wf u)) (va_A ws0 sz)) mc ms (va_A ws0 sz)
set_option maxHeartbeats 4000000 in
theorem CM_intro {y : MethodName} {cc : ByteArray} {nL : Nat} {R : Room} {av : List Value} {ws0 : va_W} {D : va_G} {tys : List (ClassId × FieldType)} {S : Type} {post : S → Prop} {Wf : S → va_W} {mc ms : Nat} (own : String) (hy : plainName y.cls = true) (hcls : y.cls = own) (hnm : y.name = "<init>") (hlen : (lg_sl av).length ≤ nL)
    (h : ∀ (A : Nat → Prop) (GF : Nat → Nat → Heap → List Loc → JFrame → Prop) (H0 : Heap) (m : MethodId), NE D tys A GF H0 m cc own nL R true → (∀ (u : S) (pc : Nat) (lo : List (Nat × Value)), post u → decode cc pc = .ok (.return_, 1) → NW D A GF H0 m nL mc ms (Wf u) pc lo []) → NW D A GF H0 m nL 0 0 ws0 0 (lv_args 0 av) []) : CM y cc nL R av ws0 D tys post Wf mc ms := by
  intro l sz
  refine Met.ofW (cc := cc) (maxL := nL) (ret := none) hy rfl ?_
  intro p e s m args below meth c s₁ B hml hv
  obtain ⟨rfl, hsz, hP, hK, hX, hD0⟩ := hv
  subst hsz
  have hts : ∀ v ∈ lw_gt, v.before av.toArray s = true := fun v hv => atoms_spec (ws := .code y cc nL none :: lw_gt) B.pre v (List.mem_cons_of_mem _ hv)
  have hown : s.vm.findClass own = some m.cls := by rw [← hcls]; exact findClass_of_methodNamed B.named
  have hx := B.exec
  have hb := B.bytes
  have hr := B.returns
  have hlocks := B.notSynchronized
  have hin : meth.name = "<init>" := (name_of_methodNamed B.named B.method).1.trans hnm
  have hl := lv_entry av (n := nL) hlen
  rw [lg_entry_eq]
  refine h (va_A ws0 s.heap.size) (fun cells slots H locs g => W p l e R s m av.toArray below meth c H locs cells slots (MQ below (va_Qv post (fun u t => va_P D vwCl (Wf u) t.heap ∧ va_D (va_A ws0 s.heap.size) (Wf u)) (va_A ws0 s.heap.size)) av.toArray s mc ms (va_A ws0 s.heap.size)) g) s.heap m ⟨p, l, e, s, av.toArray, below, meth, c, _, rfl, rfl, hx, hb, hml, hown, hts, hK, hX, fun q hq => Or.inr hq, fun _ => hin⟩ ?_ s.heap [] _ hP hD0.self va_S.rf hl
  intro u pc lo hpu hd H locs ls hP hD hS hl
  exact W.vret hx hb hr (fun t ht hW => ⟨⟨u, rfl, hpu, by rw [ht]; exact hP, hD⟩, hS.F ht⟩) hS.2.2 hd hlocks
section NROWS
variable {D : va_G} {tys : List (ClassId × FieldType)} {A : Nat → Prop} {GF : Nat → Nat → Heap → List Loc → JFrame → Prop} {H0 : Heap} {m : MethodId} {cc : ByteArray} {own : String} {nL : Nat} {R : Room} {ini : Bool} {cells slots pc : Nat} {ws : va_W} {lo lo' : List (Nat × Value)} {sk : List Value}
theorem n_aload_n (hE : NE D tys A GF H0 m cc own nL R ini) {j : Fin 4} {i : Nat} {x : Nat} (hd : decode cc pc = .ok (.aload_n j, 1)) (q : Nat) (hi : (j : Nat) = i) (hq : lo[q]? = some (i, .ref x)) (k : NW D A GF H0 m nL cells slots ws (pc + 1) lo (.ref x :: sk)) : NW D A GF H0 m nL cells slots ws pc lo sk := by
  obtain ⟨p, l, e, s, args, below, meth, c, Q, rfl, rfl, hx, hb, hml, hown, hts, hK, hX, hA, hin⟩ := hE
  exact fun H locs ls hP hD hS hl => lv_aload_n hx hb hd hi (lv_at hl q hq) (k H locs ls hP hD hS hl)
theorem n_iload_n (hE : NE D tys A GF H0 m cc own nL R ini) {j : Fin 4} {i : Nat} {x : Int32} (hd : decode cc pc = .ok (.iload_n j, 1)) (q : Nat) (hi : (j : Nat) = i) (hq : lo[q]? = some (i, .int x)) (k : NW D A GF H0 m nL cells slots ws (pc + 1) lo (.int x :: sk)) : NW D A GF H0 m nL cells slots ws pc lo sk := by
  obtain ⟨p, l, e, s, args, below, meth, c, Q, rfl, rfl, hx, hb, hml, hown, hts, hK, hX, hA, hin⟩ := hE
  exact fun H locs ls hP hD hS hl => lv_iload_n hx hb hd hi (lv_at hl q hq) (k H locs ls hP hD hS hl)
theorem n_iconst (hE : NE D tys A GF H0 m cc own nL R ini) {n : Int} (hd : decode cc pc = .ok (.iconst n, 1)) (k : NW D A GF H0 m nL cells slots ws (pc + 1) lo (.int (iI n) :: sk)) : NW D A GF H0 m nL cells slots ws pc lo sk := by
  obtain ⟨p, l, e, s, args, below, meth, c, Q, rfl, rfl, hx, hb, hml, hown, hts, hK, hX, hA, hin⟩ := hE
  exact fun H locs ls hP hD hS hl => lv_iconst hx hb hd rfl (k H locs ls hP hD hS hl)
theorem n_bipush (hE : NE D tys A GF H0 m cc own nL R ini) {n : Int} (hd : decode cc pc = .ok (.bipush n, 2)) (hv : (Int8.ofInt n).toInt32 = iI n) (k : NW D A GF H0 m nL cells slots ws (pc + 2) lo (.int (iI n) :: sk)) : NW D A GF H0 m nL cells slots ws pc lo sk := by
  obtain ⟨p, l, e, s, args, below, meth, c, Q, rfl, rfl, hx, hb, hml, hown, hts, hK, hX, hA, hin⟩ := hE
  exact fun H locs ls hP hD hS hl => lv_bipush hx hb hd hv (k H locs ls hP hD hS hl)
theorem n_sipush (hE : NE D tys A GF H0 m cc own nL R ini) {n : Int} (hd : decode cc pc = .ok (.sipush n, 3)) (hv : (Int16.ofInt n).toInt32 = iI n) (k : NW D A GF H0 m nL cells slots ws (pc + 3) lo (.int (iI n) :: sk)) : NW D A GF H0 m nL cells slots ws pc lo sk := by
  obtain ⟨p, l, e, s, args, below, meth, c, Q, rfl, rfl, hx, hb, hml, hown, hts, hK, hX, hA, hin⟩ := hE
  exact fun H locs ls hP hD hS hl => lv_sipush hx hb hd hv (k H locs ls hP hD hS hl)
theorem n_dup (hE : NE D tys A GF H0 m cc own nL R ini) {v : Value} (hd : decode cc pc = .ok (.dup, 1)) (hv : v.category = 1) (k : NW D A GF H0 m nL cells slots ws (pc + 1) lo (v :: v :: sk)) : NW D A GF H0 m nL cells slots ws pc lo (v :: sk) := by
  obtain ⟨p, l, e, s, args, below, meth, c, Q, rfl, rfl, hx, hb, hml, hown, hts, hK, hX, hA, hin⟩ := hE
  exact fun H locs ls hP hD hS hl => lv_dup hx hb hd hv (k H locs ls hP hD hS hl)
theorem n_istore_n (hE : NE D tys A GF H0 m cc own nL R ini) {j : Fin 4} {i : Nat} {x : Int32} (hd : decode cc pc = .ok (.istore_n j, 1)) (ks : List Nat) (hi : (j : Nat) = i) (hn : i < nL) (hl0 : lv_pick ((i, Value.int x) :: lo.filter (fun q => !(q.1 == i) && !(q.1 + 1 == i && q.2.category == 2))) ks = lo') (k : NW D A GF H0 m nL cells slots ws (pc + 1) lo' sk) : NW D A GF H0 m nL cells slots ws pc lo (.int x :: sk) := by
  obtain ⟨p, l, e, s, args, below, meth, c, Q, rfl, rfl, hx, hb, hml, hown, hts, hK, hX, hA, hin⟩ := hE
  exact fun H locs ls hP hD hS hl => lv_istore_n hx hb hd hi hl hn rfl (fun ls' hl' => k H locs ls' hP hD hS (lv_sub hl' ks hl0))
theorem n_astore_n (hE : NE D tys A GF H0 m cc own nL R ini) {j : Fin 4} {i : Nat} {x : Nat} (hd : decode cc pc = .ok (.astore_n j, 1)) (ks : List Nat) (hi : (j : Nat) = i) (hn : i < nL) (hl0 : lv_pick ((i, Value.ref x) :: lo.filter (fun q => !(q.1 == i) && !(q.1 + 1 == i && q.2.category == 2))) ks = lo') (k : NW D A GF H0 m nL cells slots ws (pc + 1) lo' sk) : NW D A GF H0 m nL cells slots ws pc lo (.ref x :: sk) := by
  obtain ⟨p, l, e, s, args, below, meth, c, Q, rfl, rfl, hx, hb, hml, hown, hts, hK, hX, hA, hin⟩ := hE
  exact fun H locs ls hP hD hS hl => lv_astore_n hx hb hd hi hl hn rfl (fun ls' hl' => k H locs ls' hP hD hS (lv_sub hl' ks hl0))
theorem n_iinc (hE : NE D tys A GF H0 m cc own nL R ini) {i : Nat} {n x : Int} (hd : decode cc pc = .ok (.iinc i n, 3)) (q : Nat) (ks : List Nat) (hq : lo[q]? = some (i, .int (iI x))) (hn : i < nL) (hl0 : lv_pick ((i, Value.int (iI (x + n))) :: lo.filter (fun q => !(q.1 == i) && !(q.1 + 1 == i && q.2.category == 2))) ks = lo') (k : NW D A GF H0 m nL cells slots ws (pc + 3) lo' sk) : NW D A GF H0 m nL cells slots ws pc lo sk := by
  obtain ⟨p, l, e, s, args, below, meth, c, Q, rfl, rfl, hx, hb, hml, hown, hts, hK, hX, hA, hin⟩ := hE
  exact fun H locs ls hP hD hS hl => lv_iinc hx hb hd hl hq (iI_add x n) hn rfl (fun ls' hl' => k H locs ls' hP hD hS (lv_sub hl' ks hl0))
theorem n_goto (hE : NE D tys A GF H0 m cc own nL R ini) {off : Int} (tgt : Nat) (hd : decode cc pc = .ok (.goto off, 3)) (ht : (pc : Int) + off = (tgt : Int)) (k : NW D A GF H0 m nL cells slots ws tgt lo sk) : NW D A GF H0 m nL cells slots ws pc lo sk := by
  obtain ⟨p, l, e, s, args, below, meth, c, Q, rfl, rfl, hx, hb, hml, hown, hts, hK, hX, hA, hin⟩ := hE
  exact fun H locs ls hP hD hS hl => lv_goto hx hb hd ht (k H locs ls hP hD hS hl)
theorem n_ge_no (hE : NE D tys A GF H0 m cc own nL R ini) {x y : Int32} {off : Int} (hd : decode cc pc = .ok (.if_icmp .ge off, 3)) (tgt : Nat) (ht : (pc : Int) + off = (tgt : Int)) (hc : ¬ x ≥ y) (k : NW D A GF H0 m nL cells slots ws (pc + 3) lo sk) : NW D A GF H0 m nL cells slots ws pc lo (.int y :: .int x :: sk) := by
  obtain ⟨p, l, e, s, args, below, meth, c, Q, rfl, rfl, hx, hb, hml, hown, hts, hK, hX, hA, hin⟩ := hE
  exact fun H locs ls hP hD hS hl => lv_icmp_ge hx hb hd ht (fun h => absurd h hc) (fun _ => k H locs ls hP hD hS hl)
theorem n_ge_yes (hE : NE D tys A GF H0 m cc own nL R ini) {x y : Int32} {off : Int} (tgt : Nat) (hd : decode cc pc = .ok (.if_icmp .ge off, 3)) (ht : (pc : Int) + off = (tgt : Int)) (hc : x ≥ y) (k : NW D A GF H0 m nL cells slots ws tgt lo sk) : NW D A GF H0 m nL cells slots ws pc lo (.int y :: .int x :: sk) := by
  obtain ⟨p, l, e, s, args, below, meth, c, Q, rfl, rfl, hx, hb, hml, hown, hts, hK, hX, hA, hin⟩ := hE
  exact fun H locs ls hP hD hS hl => lv_icmp_ge hx hb hd ht (fun _ => k H locs ls hP hD hS hl) (fun h => absurd hc h)
theorem n_obj (hE : NE D tys A GF H0 m cc own nL R ini) {a idx : Nat} (hl : Cond.methodLink own idx Lib.objectInit ∈ lw_gt) (hi : Cond.instanceMethod Lib.objectInit ∈ lw_gt) (hc : Cond.code Lib.objectInit ⟨#[0xb1]⟩ 1 none ∈ lw_gt) (hd : decode cc pc = .ok (.invokespecial idx, 3)) (hf : 1 ≤ R.frames) (hlo : 12 ≤ R.locals) (k : NW D A GF H0 m nL cells slots ws (pc + 3) lo []) : NW D A GF H0 m nL cells slots ws pc lo [.ref a] := by
  obtain ⟨p, l, e, s, args, below, meth, c, Q, rfl, rfl, hx, hb, hml, hown, hts, hK, hX, hA, hin⟩ := hE
  exact fun H locs ls hP hD hS hl0 => W.objInit hx hb hown (hts _ hl) (hts _ hi) (hts _ hc) rfl (by rw [hml]; exact hl0.1) rfl hd hf hlo (k H locs ls hP hD hS hl0)
theorem n_get (hE : NE D tys A GF H0 m cc own nL R ini) {a idx : Nat} {C ref : String} {T : u_T} {N : Nat} {fs : List Value} {v : Value} (q0 ci k : Nat) (he : ws[q0]? = some (a, .inr (ci, fs))) (hc : vwCl[ci]? = some (C, T, N)) (hk : k < N) (hw : ∀ v ∈ u_ws C T N, v ∈ lw_gt) (href : (T k).1 = ref) (hv : fs[k]? = some v) (hl : Cond.fieldLink own idx ref (T k).2.1 (T k).2.2.1 ∈ lw_gt) (hd : decode cc pc = .ok (.getfield idx, 3)) (kk : NW D A GF H0 m nL cells slots ws (pc + 3) lo (v :: sk)) : NW D A GF H0 m nL cells slots ws pc lo (.ref a :: sk) := by
  obtain ⟨p, l, e, s, args, below, meth, c, Q, rfl, rfl, hx, hb, hml, hown, hts, hK, hX, hA, hin⟩ := hE
  subst href
  exact fun H locs ls hP hD hS hl0 => va_get (D := D) (C := C) (T := T) (N := N) hx hb hts hw hown hK hP q0 he hc k hk (hts _ hl) (fun _ h9 => h9) hv hd (kk H locs ls hP hD hS hl0)
theorem n_put (hE : NE D tys A GF H0 m cc own nL R true) {a idx : Nat} {C ref : String} {T : u_T} {N : Nat} {fs : List Value} {v : Value} {ws' : va_W} (ty0 : Nat → FieldType) (hty : ∀ k, k < N → parseFieldDescriptor (T k).2.2.1 = some (ty0 k)) (hnm : ∀ a, a < N → ∀ b, b < N → a ≠ b → (T a).2.1 ≠ (T b).2.1) (q0 ci k : Nat) (he : ws[q0]? = some (a, .inr (ci, fs))) (hc : vwCl[ci]? = some (C, T, N)) (hk : k < N) (hw : ∀ v ∈ u_ws C T N, v ∈ lw_gt) (href : (T k).1 = ref) (hfin : (T k).2.2.2 = true → (T k).1 = own) (ty : FieldType) (hd0 : parseFieldDescriptor (T k).2.2.1 = some ty) (hn : narrow ty v = v) (hfit : fits ty v = true) (hlen : k < fs.length) (hset : ws.set q0 (a, .inr (ci, fs.set k v)) = ws') (hl : Cond.fieldLink own idx ref (T k).2.1 (T k).2.2.1 ∈ lw_gt) (hd : decode cc pc = .ok (.putfield idx, 3)) (kk : NW D A GF H0 m nL cells slots ws' (pc + 3) lo sk) : NW D A GF H0 m nL cells slots ws pc lo (v :: .ref a :: sk) := by
  obtain ⟨p, l, e, s, args, below, meth, c, Q, rfl, rfl, hx, hb, hml, hown, hts, hK, hX, hA, hin⟩ := hE
  subst href
  subst hset
  intro H locs ls hP hD hS hl0
  cases hf : (T k).2.2.2 with
  | true => exact va_putF (D := D) (C := C) (T := T) (N := N) hx hb hts hw ty0 hty hnm hown hK hP hD hS q0 he hc k hk (hts _ hl) (fun _ h9 => h9) hf (hin rfl) (hfin hf) hd0 hn hfit hlen hd (fun H1 locs1 hP1 hD1 hS1 => kk H1 locs1 ls hP1 hD1 hS1 hl0)
  | false => exact va_put (D := D) (C := C) (T := T) (N := N) hx hb hts hw ty0 hty hnm hown hK hP hD hS q0 he hc k hk (hts _ hl) (fun _ h9 => h9) hf hd0 hn hfit hlen hd (fun H1 locs1 hP1 hD1 hS1 => kk H1 locs1 ls hP1 hD1 hS1 hl0)
theorem n_iast (hE : NE D tys A GF H0 m cc own nL R ini) {a n : Nat} {cA : ClassId} {f : Nat → Int32} {i : Int} {z : Int32} {ws' : va_W} (q0 t0 : Nat) (ha : ws[q0]? = some (a, .inl (cA, n, .inl f))) (ht : tys[t0]? = some (cA, .int)) (hn : n < 2147483648) (h0 : 0 ≤ i) (h1 : i < n) (hset : ws.set q0 (a, .inl (cA, n, .inl (upd f i.toNat z))) = ws') (hd : decode cc pc = .ok (.iastore, 1)) (k : NW D A GF H0 m nL cells slots ws' (pc + 1) lo sk) : NW D A GF H0 m nL cells slots ws pc lo (.int z :: .int (iI i) :: .ref a :: sk) := by
  obtain ⟨p, l, e, s, args, below, meth, c, Q, rfl, rfl, hx, hb, hml, hown, hts, hK, hX, hA, hin⟩ := hE
  subst hset
  exact fun H locs ls hP hD hS hl => va_iast (D := D) hx hb hK hP hD hS q0 t0 ha ht (iI_in h0 h1 hn) hd (fun H1 locs1 hP1 hD1 hS1 => k H1 locs1 ls (by rw [← iI_cl h0 (by omega)]; exact hP1) (by rw [← iI_cl h0 (by omega)]; exact hD1) hS1 hl)
theorem n_aast (hE : NE D tys A GF H0 m cc own nL R ini) {a n v : Nat} {cA : ClassId} {r : vw_C} {vs : List Value} {f : Nat → Option Nat} {i : Int} {ws' : va_W} (q0 t0 qk ci : Nat) (ha : ws[q0]? = some (a, .inl (cA, n, .inr (.inr (.inr (.inr f)))))) (ht : tys[t0]? = some (cA, .object r.1)) (hv : ws[qk]? = some (v, .inr (ci, vs))) (hc : vwCl[ci]? = some r) (hn : n < 2147483648) (h0 : 0 ≤ i) (h1 : i < n) (hset : ws.set q0 (a, .inl (cA, n, .inr (.inr (.inr (.inr (va_up f i.toNat (some v))))))) = ws') (hd : decode cc pc = .ok (.aastore, 1)) (k : NW D A GF H0 m nL cells slots ws' (pc + 1) lo sk) : NW D A GF H0 m nL cells slots ws pc lo (.ref v :: .int (iI i) :: .ref a :: sk) := by
  obtain ⟨p, l, e, s, args, below, meth, c, Q, rfl, rfl, hx, hb, hml, hown, hts, hK, hX, hA, hin⟩ := hE
  subst hset
  exact fun H locs ls hP hD hS hl => va_astq (D := D) hx hb hK hP hD hS q0 t0 qk ci ha ht hv hc (iI_in h0 h1 hn) hd (fun H1 locs1 hP1 hD1 hS1 => k H1 locs1 ls (by rw [← iI_cl h0 (by omega)]; exact hP1) (by rw [← iI_cl h0 (by omega)]; exact hD1) hS1 hl)
theorem n_new (hE : NE D tys A GF H0 m cc own nL R ini) {C : String} {T : u_T} {N idx : Nat} {fs : List Value} {ws' : Nat → va_W} (ci : Nat) (hc : vwCl[ci]? = some (C, T, N)) (hw : ∀ v ∈ u_ws C T N, v ∈ lw_gt) (ty : Nat → FieldType) (hty : ∀ k, k < N → parseFieldDescriptor (T k).2.2.1 = some (ty k)) (hcl : Cond.classLink own idx C ∈ lw_gt) (hinst : Cond.instantiable C N ∈ lw_gt) (hini : Cond.initialized C ∈ lw_gt) (hfs : ∀ j, j < N → defaultValue (ty j) = vp_V fs j) (hcells : cells + 1 ≤ R.cells) (hslots : slots + N ≤ R.slots) (hws : ∀ q, ws ++ [(q, .inr (ci, fs))] = ws' q) (hd : decode cc pc = .ok (.new idx, 3)) (k : ∀ q : Nat, NW D A GF H0 m nL (cells + 1) (slots + N) (ws' q) (pc + 3) lo (.ref q :: sk)) : NW D A GF H0 m nL cells slots ws pc lo sk := by
  obtain ⟨p, l, e, s, args, below, meth, c, Q, rfl, rfl, hx, hb, hml, hown, hts, hK, hX, hA, hin⟩ := hE
  exact fun H locs ls hP hD hS hl => va_new (ci := ci) (fs := fs) (C := C) (T := T) (N := N) hx hb hts hw ty hty hown (hts _ hcl) (hts _ hinst) (hts _ hini) hK hP hD hS hA hc hfs hcells hslots hd (fun q H1 hP1 hD1 hS1 => k q H1 locs ls (by rw [← hws]; exact hP1) (by rw [← hws]; exact hD1) hS1 hl)
theorem n_newa (hE : NE D tys A GF H0 m cc own nL R ini) {atype : ArrayType} {ty : FieldType} {cA : ClassId} {n : Int} {N : Nat} {a0 : vp_A} {ws' : Nat → va_W} (t0 : Nat) (ht : tys[t0]? = some (cA, ty)) (harr : Cond.arrayClass (newarray.typeOf atype) ∈ lw_gt) (hty : newarray.typeOf atype = ty) (ha : ∀ cA : ClassId, vp_cell cA a0 = arrV cA N (fun _ => defaultValue ty)) (h0 : 0 ≤ n ∧ n < 2147483648) (hN : n.toNat = N) (hbytes : N * componentBytes ty ≤ 536870912) (hcells : cells + 1 ≤ R.cells) (hslots : slots + N ≤ R.slots) (hws : ∀ q, ws ++ [(q, .inl (cA, a0))] = ws' q) (hd : decode cc pc = .ok (.newarray atype, 2)) (k : ∀ q : Nat, NW D A GF H0 m nL (cells + 1) (slots + N) (ws' q) (pc + 2) lo (.ref q :: sk)) : NW D A GF H0 m nL cells slots ws pc lo (.int (iI n) :: sk) := by
  obtain ⟨p, l, e, s, args, below, meth, c, Q, rfl, rfl, hx, hb, hml, hown, hts, hK, hX, hA, hin⟩ := hE
  intro H locs ls hP hD hS hl
  refine va_newa (D := D) hx hb (hts _ harr) hty hK hP hD hS hA (a0 := a0) ha (fun h => by rw [iI_0, iI_lt (by unfold in32; omega) in32_0] at h; omega) (by rw [iI_cl h0.1 h0.2]; exact hN) hbytes hcells hslots hd (fun q cA2 H1 hK1 hP1 hD1 hS1 => ?_)
  have e1 : cA2 = cA := RA_uni (hK1.2 tys.length (cA2, ty) (by rw [List.getElem?_append_right (Nat.le_refl _), Nat.sub_self]; rfl)).2 (hK.2 t0 _ ht).2
  subst e1
  exact k q H1 locs ls (by rw [← hws]; exact hP1) (by rw [← hws]; exact hD1) hS1 hl
theorem n_newq (hE : NE D tys A GF H0 m cc own nL R ini) {C : String} {cA : ClassId} {idx : Nat} {n : Int} {N : Nat} {ws' : Nat → va_W} (t0 : Nat) (ht : tys[t0]? = some (cA, .object C)) (hcl : Cond.classLink own idx C ∈ lw_gt) (hao : ∀ U : State, KX U → va_AO C U) (h0 : 0 ≤ n ∧ n < 2147483648) (hN : n.toNat = N) (hbytes : N * 4 ≤ 536870912) (hcells : cells + 1 ≤ R.cells) (hslots : slots + N ≤ R.slots) (hws : ∀ q, ws ++ [(q, .inl (cA, N, .inr (.inr (.inr (.inr (fun _ => none))))))] = ws' q) (hd : decode cc pc = .ok (.anewarray idx, 3)) (k : ∀ q : Nat, NW D A GF H0 m nL (cells + 1) (slots + N) (ws' q) (pc + 3) lo (.ref q :: sk)) : NW D A GF H0 m nL cells slots ws pc lo (.int (iI n) :: sk) := by
  obtain ⟨p, l, e, s, args, below, meth, c, Q, rfl, rfl, hx, hb, hml, hown, hts, hK, hX, hA, hin⟩ := hE
  intro H locs ls hP hD hS hl
  refine va_newq (D := D) hx hb hown (hts _ hcl) (hao s hX) hK hP hD hS hA (fun h => by rw [iI_0, iI_lt (by unfold in32; omega) in32_0] at h; omega) (by rw [iI_cl h0.1 h0.2]; exact hN) hbytes hcells hslots hd (fun q cA2 H1 hK1 hP1 hD1 hS1 => ?_)
  have e1 : cA2 = cA := RA_uni (hK1.2 tys.length (cA2, .object C) (by rw [List.getElem?_append_right (Nat.le_refl _), Nat.sub_self]; rfl)).2 (hK.2 t0 _ ht).2
  subst e1
  exact k q H1 locs ls (by rw [← hws]; exact hP1) (by rw [← hws]; exact hD1) hS1 hl
/-- an array of references: what stands behind its end is nobody's -/
theorem n_q (q0 : Nat) {a n : Nat} {cA : ClassId} {f g : Nat → Option Nat} {ws' : va_W} (ha : ws[q0]? = some (a, .inl (cA, n, .inr (.inr (.inr (.inr f)))))) (he : ∀ j, j < n → f j = g j) (hset : ws.set q0 (a, .inl (cA, n, .inr (.inr (.inr (.inr g))))) = ws') (k : NW D A GF H0 m nL cells slots ws' pc lo sk) : NW D A GF H0 m nL cells slots ws pc lo sk := by
  subst hset
  intro H locs ls hP hD hS hl
  refine k H locs ls ?_ (hD.set ha) hS hl
  intro j q hj
  have hq0 := (List.getElem?_eq_some_iff.mp ha).1
  by_cases e : j = q0
  · rw [e, List.getElem?_set_self hq0] at hj
    cases hj
    have h5 := hP q0 _ ha
    show H[a]? = some (vp_cell cA (n, .inr (.inr (.inr (.inr g)))))
    rw [vp_cell_q, ← arr_cong (cA := cA) (N := n) (f := fun j => va_rf (f j)) (fun j hj => by rw [he j hj])]
    exact h5
  · rw [List.getElem?_set_ne (Ne.symm e)] at hj
    exact hP j q hj
theorem n_perm (is : List Nat) {ws' : va_W} (h1 : is.filterMap (fun i => ws[i]?) = ws') (hn : va_nd is = true) (h2 : is.map (fun i => ws[i]?) = ws'.map some) (k : NW D A GF H0 m nL cells slots ws' pc lo sk) : NW D A GF H0 m nL cells slots ws pc lo sk :=
  fun H locs ls hP hD hS hl => k H locs ls (hP.sub is h1) (hD.sub is hn h2) hS hl
theorem n_lo (ks : List Nat) (h : lv_pick lo ks = lo') (k : NW D A GF H0 m nL cells slots ws pc lo' sk) : NW D A GF H0 m nL cells slots ws pc lo sk := fun H locs ls hP hD hS hl => k H locs ls hP hD hS (lv_sub hl ks h)
/-- a constructor's words -/
def MI (y : MethodName) (b : ByteArray) (nl : Nat) (n : Nat) : Prop := Cond.instanceMethod y ∈ lw_gt ∧ Cond.initialized y.cls ∈ lw_gt ∧ Cond.code y b nl none ∈ lw_gt ∧ y.name = "<init>" ∧ y.cls ≠ "java/lang/invoke/MethodHandle" ∧ y.cls ≠ "java/lang/invoke/VarHandle" ∧ (parseMethodDescriptor y.desc).map (fun d => d.parameters.length) = some n
set_option maxHeartbeats 4000000 in
theorem n_callI (hE : NE D tys A GF H0 m cc own nL R ini) {y : MethodName} {bytes : ByteArray} {maxL n idx b mc ms : Nat} {rm : Room} {As : List Value} {S : Type} {post : S → Prop} {Wf : S → va_W} {wc wr : va_W} {ws' : S → va_W} (hM : CM y bytes maxL rm (.ref b :: As) wc D tys post Wf mc ms) (hY : MI y bytes maxL n) (hl : Cond.methodLink own idx y ∈ lw_gt) (hn : As.length = n) (hrm : rm.cells = mc ∧ rm.slots = ms ∧ rm.frames + 1 ≤ R.frames ∧ 8 + (maxL + 11) + rm.locals ≤ R.locals) (isC isR : List Nat) (hC1 : isC.filterMap (fun i => ws[i]?) = wc) (hC : isC.map (fun i => ws[i]?) = wc.map some) (hCn : va_nd isC = true) (hRr : isR.map (fun i => ws[i]?) = wr.map some) (hRn : va_nd isR = true) (hdis : ∀ i ∈ isR, i ∉ isC) (hc : cells + mc ≤ R.cells) (hs : slots + ms ≤ R.slots) (rest : List Value) (hr8 : (rest.map fun v => v.category).sum ≤ 8) (hws : ∀ u, wr ++ Wf u = ws' u) (hd : decode cc pc = .ok (.invokespecial idx, 3)) (hsk : sk = As.reverse ++ .ref b :: rest) (k : ∀ u : S, post u → NW D A GF H0 m nL (cells + mc) (slots + ms) (ws' u) (pc + 3) lo rest) : NW D A GF H0 m nL cells slots ws pc lo sk := by
  obtain ⟨p, l, e, s, args, below, meth, c, Q, rfl, rfl, hx, hb, hml, hown, hts, hK, hX, hA, hin⟩ := hE
  obtain ⟨y1, y2, y3, y4, y5, y6, y7⟩ := hY
  subst hsk
  intro H locs ls hP hD hS hl0
  have hPc := hP.sub (ws' := wc) isC hC1
  have hDc := hD.sub (ws' := wc) isC hCn hC
  have hFc := va_free (wc := wc) hD hS hA isC hC
  refine va_callv (va_runI (As := As) (rest := rest) (Ts := lw_gt) ⟨hx, hb, hml, hown, hts⟩ (hM l H.size) ⟨callB_of n hts (tbl_in y3) rfl hrm.1 hrm.2.1 (hts _ y2) (hts _ hl) ⟨y5, y6, y7⟩ hrm.2.2, y4, hts _ y1⟩ ⟨fun a U g mk q => by obtain ⟨q0, q1, qP, qK, qX, qD⟩ := q; exact ⟨q0, q1, qP, va_K.moved (u := U) (U := U.calling g mk a) (Vm.Alike.refl U.vm) qK, KX.same (s := U) (U := U.calling g mk a) rfl qX, qD⟩, fun U hU hW => ⟨rfl, by rw [hU], by rw [hU]; exact hPc, va_K.moved hW.alike hK, KX.warm hW hX, hDc.weaken (fun _ _ _ _ => trivial)⟩⟩ rfl hn hl0.1 rfl (lv_room hr8) hd ⟨hc, hs⟩) hS (fun q _ h => hFc q h) hFc (fun u t H1 locs1 ht hvm hw hB hz1 hk1 hS1 => ?_)
  obtain ⟨hP1, hD1⟩ := hB
  rw [ht] at hP1
  obtain ⟨hP2, hD2⟩ := va_join (wr := wr) (w1 := Wf u) hP hD isC isR hC hRr hRn hdis hk1 hFc hP1 hD1
  exact k u hw H1 locs1 ls (by rw [← hws]; exact hP2) (by rw [← hws]; exact hD2) hS1 hl0
set_option maxHeartbeats 4000000 in
theorem n_callIN (hE : NE D tys A GF H0 m cc own nL R ini) {y : MethodName} {host : String} {bytes : ByteArray} {maxL n idx b mc ms : Nat} {rm : Room} {As : List Value} {S : Type} {post : S → Prop} {Wf : S → va_W} {wc wr : va_W} {ws' : S → va_W} (hM : CM y bytes maxL rm (.ref b :: As) wc D tys post Wf mc ms) (hY : MI y bytes maxL n) (hl : ∀ U : State, KX U → va_Nw (.methodLinkNest own idx y host) U) (hn : As.length = n) (hrm : rm.cells = mc ∧ rm.slots = ms ∧ rm.frames + 1 ≤ R.frames ∧ 8 + (maxL + 11) + rm.locals ≤ R.locals) (isC isR : List Nat) (hC1 : isC.filterMap (fun i => ws[i]?) = wc) (hC : isC.map (fun i => ws[i]?) = wc.map some) (hCn : va_nd isC = true) (hRr : isR.map (fun i => ws[i]?) = wr.map some) (hRn : va_nd isR = true) (hdis : ∀ i ∈ isR, i ∉ isC) (hc : cells + mc ≤ R.cells) (hs : slots + ms ≤ R.slots) (rest : List Value) (hr8 : (rest.map fun v => v.category).sum ≤ 8) (hws : ∀ u, wr ++ Wf u = ws' u) (hd : decode cc pc = .ok (.invokespecial idx, 3)) (hsk : sk = As.reverse ++ .ref b :: rest) (k : ∀ u : S, post u → NW D A GF H0 m nL (cells + mc) (slots + ms) (ws' u) (pc + 3) lo rest) : NW D A GF H0 m nL cells slots ws pc lo sk := by
  obtain ⟨p, l, e, s, args, below, meth, c, Q, rfl, rfl, hx, hb, hml, hown, hts, hK, hX, hA, hin⟩ := hE
  obtain ⟨y1, y2, y3, y4, y5, y6, y7⟩ := hY
  subst hsk
  intro H locs ls hP hD hS hl0
  have hPc := hP.sub (ws' := wc) isC hC1
  have hDc := hD.sub (ws' := wc) isC hCn hC
  have hFc := va_free (wc := wc) hD hS hA isC hC
  refine va_callv (va_runIN (As := As) (rest := rest) (Ts := lw_gt) ⟨hx, hb, hml, hown, hts⟩ (hM l H.size) ⟨va_cnB n hts (tbl_in y3) rfl hrm.1 hrm.2.1 (hl s hX) (hts _ y2) ⟨y5, y6, y7⟩ hrm.2.2, y4, hts _ y1⟩ ⟨fun a U g mk q => by obtain ⟨q0, q1, qP, qK, qX, qD⟩ := q; exact ⟨q0, q1, qP, va_K.moved (u := U) (U := U.calling g mk a) (Vm.Alike.refl U.vm) qK, KX.same (s := U) (U := U.calling g mk a) rfl qX, qD⟩, fun U hU hW => ⟨rfl, by rw [hU], by rw [hU]; exact hPc, va_K.moved hW.alike hK, KX.warm hW hX, hDc.weaken (fun _ _ _ _ => trivial)⟩⟩ rfl hn hl0.1 rfl (lv_room hr8) hd ⟨hc, hs⟩) hS (fun q _ h => hFc q h) hFc (fun u t H1 locs1 ht hvm hw hB hz1 hk1 hS1 => ?_)
  obtain ⟨hP1, hD1⟩ := hB
  rw [ht] at hP1
  obtain ⟨hP2, hD2⟩ := va_join (wr := wr) (w1 := Wf u) hP hD isC isR hC hRr hRn hdis hk1 hFc hP1 hD1
  exact k u hw H1 locs1 ls (by rw [← hws]; exact hP2) (by rw [← hws]; exact hD2) hS1 hl0
end NROWS
