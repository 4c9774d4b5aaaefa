/-- the tables' words that hold at every call below, too -/
def lw_gt : List Cond := lw_tbl.filter goodWord
theorem gt_mem {v : Cond} (h : v ∈ lw_tbl) (hg : goodWord v = true) : v ∈ lw_gt := List.mem_filter.mpr ⟨h, hg⟩
theorem gt_good {v : Cond} (h : v ∈ lw_gt) : goodWord v = true := (List.mem_filter.mp h).2
/-! numbers: a machine int is iI of a whole number -/
def iI (z : Int) : Int32 := Int32.ofInt z
def jI (z : Int) : Int64 := Int64.ofInt z
def in32 (z : Int) : Prop := -2147483648 ≤ z ∧ z < 2147483648
theorem iI_add (a b : Int) : iI a + iI b = iI (a + b) := (Int32.ofInt_add a b).symm
theorem iI_sub (a b : Int) : iI a - iI b = iI (a - b) := (Int32.ofInt_sub a b).symm
theorem iI_mul (a b : Int) : iI a * iI b = iI (a * b) := (Int32.ofInt_mul a b).symm
theorem iI_toInt (x : Int32) : iI x.toInt = x := Int32.ofInt_toInt x
theorem iI_val {z : Int} (h1 : -2147483648 ≤ z) (h2 : z < 2147483648) : (iI z).toInt = z := Int32.toInt_ofInt_of_le h1 h2
theorem iI_rng (x : Int32) : -2147483648 ≤ x.toInt ∧ x.toInt < 2147483648 := ⟨x.le_toInt, x.toInt_lt⟩
theorem iI_lt {a b : Int} (ha : in32 a) (hb : in32 b) : iI a < iI b ↔ a < b := by
  rw [Int32.lt_iff_toInt_lt, iI_val ha.1 ha.2, iI_val hb.1 hb.2]
theorem iI_le {a b : Int} (ha : in32 a) (hb : in32 b) : iI a ≤ iI b ↔ a ≤ b := by
  rw [Int32.le_iff_toInt_le, iI_val ha.1 ha.2, iI_val hb.1 hb.2]
theorem iI_eq {a b : Int} (ha : in32 a) (hb : in32 b) : iI a = iI b ↔ a = b := by
  rw [← Int32.toInt_inj, iI_val ha.1 ha.2, iI_val hb.1 hb.2]
theorem iI_0 : (0 : Int32) = iI 0 := rfl
theorem in32_0 : in32 0 := by unfold in32; omega
theorem iI_cl {z : Int} (h1 : 0 ≤ z) (h2 : z < 2147483648) : (iI z).toNatClampNeg = z.toNat := by
  rw [← Int32.toNat_toInt, iI_val (by omega) h2]
theorem iI_in {z : Int} {n : Nat} (h1 : 0 ≤ z) (h2 : z < n) (hn : n < 2147483648) : vp_in (iI z) n := by
  rw [vp_in_iff, iI_val (by omega) (by omega)]; omega
theorem iI_div {a b : Int} (ha : in32 a) (hb : in32 b) (h : 0 < b) : iI a / iI b = iI (a.tdiv b) := by
  refine (Int32.ofInt_tdiv ?_ ?_ ?_ ?_).symm
  · exact ha.1
  · have := ha.2; exact Int.le_of_lt_add_one this
  · exact hb.1
  · have := hb.2; exact Int.le_of_lt_add_one this
/-! worlds -/
abbrev Sg : Type := (Nat → Int) × (Nat → Int → Int)
abbrev WD (σ : Type) : Type := (σ → va_W) × List Nat × va_G × List (ClassId × FieldType)
def AA (ads : List Nat) (sz : Nat) : Nat → Prop := fun q => q ∈ ads ∨ sz ≤ q
def WOK {σ : Type} (w : WD σ) : Prop := (∀ st, (w.1 st).map Prod.fst = w.2.1) ∧ ∀ (i j a : Nat), w.2.1[i]? = some a → w.2.1[j]? = some a → i = j
theorem WOK.D {σ : Type} {w : WD σ} (h : WOK w) (sz : Nat) (st : σ) : va_D (AA w.2.1 sz) (w.1 st) := by
  have e : ∀ (k : Nat) (q : Nat × va_E), (w.1 st)[k]? = some q → w.2.1[k]? = some q.1 := by
    intro k q hk
    rw [← h.1 st, List.getElem?_map, hk]; rfl
  refine ⟨?_, ?_⟩
  · intro i j p q hi hj he
    have h1 := e i p hi
    have h2 := e j q hj
    rw [← he] at h2
    exact h.2 i j _ h1 h2
  · intro k q hk
    exact Or.inl (List.mem_of_getElem? (e k q hk))
/-- what stands still through a walk -/
def KE {σ : Type} (w : WD σ) (G : Heap → List Loc → JFrame → Prop) (H0 : Heap) (m : MethodId) (cc : ByteArray) (own : String) (nL : Nat) (R : Room) : Prop :=
  ∃ (p : Program) (l : Launch) (e : Env) (s : State) (args : Array Value) (below : List Frame) (meth : Method) (c : Code) (Q : State → Prop) (cells slots : Nat),
    G = (fun H locs g => W p l e R s m args below meth c H locs cells slots Q g) ∧ H0 = s.heap ∧ p.tables.exec = Jvm.exec ∧ c.code = cc ∧ c.maxLocals = nL ∧ s.vm.findClass own = some m.cls ∧ (∀ v ∈ lw_gt, v.before args s = true) ∧ va_K w.2.2.1 vwCl w.2.2.2 s ∧ WOK w ∧ cells ≤ R.cells ∧ slots ≤ R.slots
/-- from every heap that holds the world of st: the walk from pc on -/
def KW {σ : Type} (w : WD σ) (G : Heap → List Loc → JFrame → Prop) (H0 : Heap) (m : MethodId) (nL : Nat) (st : σ) (pc : Nat) (lo : List (Nat × Value)) (sk : List Value) : Prop :=
  ∀ (H : Heap) (locs : List Loc) (ls : Array Slot), va_P w.2.2.1 vwCl (w.1 st) H → va_S (AA w.2.1 H0.size) H0 H locs → lv_has ls nL lo → G H locs (F0 m pc ls sk)
/-- the ways to return -/
def KR {σ : Type} (w : WD σ) (G : Heap → List Loc → JFrame → Prop) (H0 : Heap) (m : MethodId) (nL : Nat) (cc : ByteArray) (rt : Option FieldType) (post : Option Value → σ → Prop) : Prop :=
  (∀ (ty : FieldType) (pc : Nat) (z : Int32) (u : σ) (lo : List (Nat × Value)), rt = some ty → narrow ty (.int z) = .int z → decode cc pc = .ok (.ireturn, 1) → post (some (.int z)) u → KW w G H0 m nL u pc lo [.int z]) ∧
  (∀ (pc : Nat) (z : Int64) (u : σ) (lo : List (Nat × Value)), rt = some .long → decode cc pc = .ok (.lreturn, 1) → post (some (.long z)) u → KW w G H0 m nL u pc lo [.long z]) ∧
  (∀ (pc : Nat) (u : σ) (lo : List (Nat × Value)), rt = none → decode cc pc = .ok (.return_, 1) → post none u → KW w G H0 m nL u pc lo [])
def QQ {σ : Type} (w : WD σ) (post : Option Value → σ → Prop) (sz : Nat) : Array Value → State → Outcome → State → Prop := fun _ st oc t => (∃ (rv : Option Value) (u : σ), oc = .returned rv ∧ post rv u ∧ va_P w.2.2.1 vwCl (w.1 u) t.heap) ∧ va_F (AA w.2.1 sz) st t
/-- a contract over a world -/
def MC {σ : Type} (w : WD σ) (y : MethodName) (cc : ByteArray) (nL : Nat) (rt : Option FieldType) (R : Room) (av : List Value) (st : σ) (post : Option Value → σ → Prop) : Prop :=
  WOK w → ∀ (l : Launch) (sz : Nat), Met l y (.code y cc nL rt :: lw_gt) R (va_Pc av (fun U => U.heap.size = sz ∧ va_P w.2.2.1 vwCl (w.1 st) U.heap ∧ va_K w.2.2.1 vwCl w.2.2.2 U)) (QQ w post sz) 0 0 (AA w.2.1 sz)
set_option maxHeartbeats 4000000 in
theorem MC_intro {σ : Type} {w : WD σ} {y : MethodName} {cc : ByteArray} {nL : Nat} {rt : Option FieldType} {R : Room} {av : List Value} {st : σ} {post : Option Value → σ → Prop} (own : String) (hy : plainName y.cls = true) (hcls : y.cls = own) (hlen : (lg_sl av).length ≤ nL)
    (h : ∀ (G : Heap → List Loc → JFrame → Prop) (H0 : Heap) (m : MethodId), KE w G H0 m cc own nL R → KR w G H0 m nL cc rt post → KW w G H0 m nL st 0 (lv_args 0 av) []) : MC w y cc nL rt R av st post := by
  intro hw l sz
  refine Met.ofW (cc := cc) (maxL := nL) (ret := rt) hy rfl ?_
  intro p e s m args below meth c s₁ B hml hv
  obtain ⟨rfl, hsz, hP, hK⟩ := hv
  subst hsz
  have hts : ∀ v ∈ lw_gt, v.before av.toArray s = true := fun v hv => atoms_spec (ws := .code y cc nL rt :: lw_gt) B.pre v (List.mem_cons_of_mem _ hv)
  have hown : s.vm.findClass own = some m.cls := by rw [← hcls]; exact findClass_of_methodNamed B.named
  have hx := B.exec
  have hb := B.bytes
  have hr := B.returns
  have hlocks := B.notSynchronized
  have hl := lv_entry av (n := nL) hlen
  rw [lg_entry_eq]
  refine h (fun H locs g => W p l e R s m av.toArray below meth c H locs 0 0 (MQ below (QQ w post s.heap.size) av.toArray s 0 0 (AA w.2.1 s.heap.size)) g) s.heap m ⟨p, l, e, s, av.toArray, below, meth, c, _, 0, 0, rfl, rfl, hx, hb, hml, hown, hts, hK, hw, Nat.zero_le _, Nat.zero_le _⟩ ⟨?_, ?_, ?_⟩ s.heap [] _ hP va_S.rf hl
  · intro ty pc z u lo ht hn hd hpost H locs ls hP hS hl
    exact W.zret hx hb (by rw [hr, ht]) hn (fun t ht hW => ⟨⟨_, u, rfl, hpost, by rw [ht]; exact hP⟩, hS.F ht⟩) hS.2.2 hd hlocks
  · intro pc z u lo ht hd hpost H locs ls hP hS hl
    exact W.lret hx hb (by rw [hr, ht]) (fun t ht hW => ⟨⟨_, u, rfl, hpost, by rw [ht]; exact hP⟩, hS.F ht⟩) hS.2.2 hd hlocks
  · intro pc u lo ht hd hpost H locs ls hP hS hl
    exact W.vret hx hb (by rw [hr, ht]) (fun t ht hW => ⟨⟨_, u, rfl, hpost, by rw [ht]; exact hP⟩, hS.F ht⟩) hS.2.2 hd hlocks
theorem MC_post {σ : Type} {w : WD σ} {y : MethodName} {cc : ByteArray} {nL : Nat} {rt : Option FieldType} {R : Room} {av : List Value} {st : σ} {post post2 : Option Value → σ → Prop} (h : MC w y cc nL rt R av st post) (hp : ∀ rv u, post rv u → post2 rv u) : MC w y cc nL rt R av st post2 := by
  intro hw l sz p e ha hc hk s m args below hf happ hP hK
  obtain ⟨k, o, h1, h2, h3, hQ⟩ := h hw l sz p e ha hc hk s m args below hf happ hP hK
  obtain ⟨⟨⟨rv, u, e1, e2, e3⟩, e4⟩, e5⟩ := hQ
  exact ⟨k, o, h1, h2, h3, ⟨⟨rv, u, e1, hp _ _ e2, e3⟩, e4⟩, e5⟩
/-! rows of instructions -/
section KROWS
variable {σ : Type} {w : WD σ} {G : Heap → List Loc → JFrame → Prop} {H0 : Heap} {m : MethodId} {cc : ByteArray} {own : String} {nL : Nat} {R : Room} {st : σ} {pc : Nat} {lo lo' : List (Nat × Value)} {sk : List Value}
theorem k_st (st' : σ) (h : st = st') (k : KW w G H0 m nL st' pc lo sk) : KW w G H0 m nL st pc lo sk := h ▸ k
theorem k_sk {sk' : List Value} (h : sk = sk') (k : KW w G H0 m nL st pc lo sk') : KW w G H0 m nL st pc lo sk := h ▸ k
theorem k_lo (ks : List Nat) (h : lv_pick lo ks = lo') (k : KW w G H0 m nL st pc lo' sk) : KW w G H0 m nL st pc lo sk := fun H locs ls hP hS hl => k H locs ls hP hS (lv_sub hl ks h)
theorem k_iconst (hE : KE w G H0 m cc own nL R) {n : Int} (hd : decode cc pc = .ok (.iconst n, 1)) (k : KW w G H0 m nL st (pc + 1) lo (.int (iI n) :: sk)) : KW w G H0 m nL st pc lo sk := by
  obtain ⟨p, l, e, s, args, below, meth, c, Q, cells, slots, rfl, rfl, hx, hb, hml, hown, hts, hK, hw, hc1, hc2⟩ := hE
  exact fun H locs ls hP hS hl => lv_iconst hx hb hd rfl (k H locs ls hP hS hl)
theorem k_bipush (hE : KE w G H0 m cc own nL R) {n : Int} (hd : decode cc pc = .ok (.bipush n, 2)) (hv : (Int8.ofInt n).toInt32 = iI n) (k : KW w G H0 m nL st (pc + 2) lo (.int (iI n) :: sk)) : KW w G H0 m nL st pc lo sk := by
  obtain ⟨p, l, e, s, args, below, meth, c, Q, cells, slots, rfl, rfl, hx, hb, hml, hown, hts, hK, hw, hc1, hc2⟩ := hE
  exact fun H locs ls hP hS hl => lv_bipush hx hb hd hv (k H locs ls hP hS hl)
theorem k_sipush (hE : KE w G H0 m cc own nL R) {n : Int} (hd : decode cc pc = .ok (.sipush n, 3)) (hv : (Int16.ofInt n).toInt32 = iI n) (k : KW w G H0 m nL st (pc + 3) lo (.int (iI n) :: sk)) : KW w G H0 m nL st pc lo sk := by
  obtain ⟨p, l, e, s, args, below, meth, c, Q, cells, slots, rfl, rfl, hx, hb, hml, hown, hts, hK, hw, hc1, hc2⟩ := hE
  exact fun H locs ls hP hS hl => lv_sipush hx hb hd hv (k H locs ls hP hS hl)
theorem k_iload_n (hE : KE w G H0 m cc own nL R) {j : Fin 4} {i : Nat} {x : Int32} (hd : decode cc pc = .ok (.iload_n j, 1)) (q : Nat) (hi : (j : Nat) = i) (hq : lo[q]? = some (i, .int x)) (k : KW w G H0 m nL st (pc + 1) lo (.int x :: sk)) : KW w G H0 m nL st pc lo sk := by
  obtain ⟨p, l, e, s, args, below, meth, c, Q, cells, slots, rfl, rfl, hx, hb, hml, hown, hts, hK, hw, hc1, hc2⟩ := hE
  exact fun H locs ls hP hS hl => lv_iload_n hx hb hd hi (lv_at hl q hq) (k H locs ls hP hS hl)
theorem k_iload (hE : KE w G H0 m cc own nL R) {i : Nat} {x : Int32} (hd : decode cc pc = .ok (.iload i, 2)) (q : Nat) (hq : lo[q]? = some (i, .int x)) (k : KW w G H0 m nL st (pc + 2) lo (.int x :: sk)) : KW w G H0 m nL st pc lo sk := by
  obtain ⟨p, l, e, s, args, below, meth, c, Q, cells, slots, rfl, rfl, hx, hb, hml, hown, hts, hK, hw, hc1, hc2⟩ := hE
  exact fun H locs ls hP hS hl => lv_iload hx hb hd (lv_at hl q hq) (k H locs ls hP hS hl)
theorem k_aload_n (hE : KE w G H0 m cc own nL R) {j : Fin 4} {i : Nat} {x : Nat} (hd : decode cc pc = .ok (.aload_n j, 1)) (q : Nat) (hi : (j : Nat) = i) (hq : lo[q]? = some (i, .ref x)) (k : KW w G H0 m nL st (pc + 1) lo (.ref x :: sk)) : KW w G H0 m nL st pc lo sk := by
  obtain ⟨p, l, e, s, args, below, meth, c, Q, cells, slots, rfl, rfl, hx, hb, hml, hown, hts, hK, hw, hc1, hc2⟩ := hE
  exact fun H locs ls hP hS hl => lv_aload_n hx hb hd hi (lv_at hl q hq) (k H locs ls hP hS hl)
theorem k_aload (hE : KE w G H0 m cc own nL R) {i : Nat} {x : Nat} (hd : decode cc pc = .ok (.aload i, 2)) (q : Nat) (hq : lo[q]? = some (i, .ref x)) (k : KW w G H0 m nL st (pc + 2) lo (.ref x :: sk)) : KW w G H0 m nL st pc lo sk := by
  obtain ⟨p, l, e, s, args, below, meth, c, Q, cells, slots, rfl, rfl, hx, hb, hml, hown, hts, hK, hw, hc1, hc2⟩ := hE
  exact fun H locs ls hP hS hl => lv_aload hx hb hd (lv_at hl q hq) (k H locs ls hP hS hl)
theorem k_lload_n (hE : KE w G H0 m cc own nL R) {j : Fin 4} {i : Nat} {x : Int64} (hd : decode cc pc = .ok (.lload_n j, 1)) (q : Nat) (hi : (j : Nat) = i) (hq : lo[q]? = some (i, .long x)) (k : KW w G H0 m nL st (pc + 1) lo (.long x :: sk)) : KW w G H0 m nL st pc lo sk := by
  obtain ⟨p, l, e, s, args, below, meth, c, Q, cells, slots, rfl, rfl, hx, hb, hml, hown, hts, hK, hw, hc1, hc2⟩ := hE
  exact fun H locs ls hP hS hl => lv_lload_n hx hb hd hi (lv_at hl q hq) (k H locs ls hP hS hl)
theorem k_lload (hE : KE w G H0 m cc own nL R) {i : Nat} {x : Int64} (hd : decode cc pc = .ok (.lload i, 2)) (q : Nat) (hq : lo[q]? = some (i, .long x)) (k : KW w G H0 m nL st (pc + 2) lo (.long x :: sk)) : KW w G H0 m nL st pc lo sk := by
  obtain ⟨p, l, e, s, args, below, meth, c, Q, cells, slots, rfl, rfl, hx, hb, hml, hown, hts, hK, hw, hc1, hc2⟩ := hE
  exact fun H locs ls hP hS hl => lv_lload hx hb hd (lv_at hl q hq) (k H locs ls hP hS hl)
theorem k_istore_n (hE : KE w G H0 m cc own nL R) {j : Fin 4} {i : Nat} {x : Int32} (hd : decode cc pc = .ok (.istore_n j, 1)) (ks : List Nat) (hi : (j : Nat) = i) (hn : i < nL) (hl0 : lv_pick ((i, Value.int x) :: lo.filter (fun q => !(q.1 == i) && !(q.1 + 1 == i && q.2.category == 2))) ks = lo') (k : KW w G H0 m nL st (pc + 1) lo' sk) : KW w G H0 m nL st pc lo (.int x :: sk) := by
  obtain ⟨p, l, e, s, args, below, meth, c, Q, cells, slots, rfl, rfl, hx, hb, hml, hown, hts, hK, hw, hc1, hc2⟩ := hE
  exact fun H locs ls hP hS hl => lv_istore_n hx hb hd hi hl hn rfl (fun ls' hl' => k H locs ls' hP hS (lv_sub hl' ks hl0))
theorem k_istore (hE : KE w G H0 m cc own nL R) {i : Nat} {x : Int32} (hd : decode cc pc = .ok (.istore i, 2)) (ks : List Nat) (hn : i < nL) (hl0 : lv_pick ((i, Value.int x) :: lo.filter (fun q => !(q.1 == i) && !(q.1 + 1 == i && q.2.category == 2))) ks = lo') (k : KW w G H0 m nL st (pc + 2) lo' sk) : KW w G H0 m nL st pc lo (.int x :: sk) := by
  obtain ⟨p, l, e, s, args, below, meth, c, Q, cells, slots, rfl, rfl, hx, hb, hml, hown, hts, hK, hw, hc1, hc2⟩ := hE
  exact fun H locs ls hP hS hl => lv_istore hx hb hd hl hn rfl (fun ls' hl' => k H locs ls' hP hS (lv_sub hl' ks hl0))
theorem k_astore_n (hE : KE w G H0 m cc own nL R) {j : Fin 4} {i : Nat} {x : Nat} (hd : decode cc pc = .ok (.astore_n j, 1)) (ks : List Nat) (hi : (j : Nat) = i) (hn : i < nL) (hl0 : lv_pick ((i, Value.ref x) :: lo.filter (fun q => !(q.1 == i) && !(q.1 + 1 == i && q.2.category == 2))) ks = lo') (k : KW w G H0 m nL st (pc + 1) lo' sk) : KW w G H0 m nL st pc lo (.ref x :: sk) := by
  obtain ⟨p, l, e, s, args, below, meth, c, Q, cells, slots, rfl, rfl, hx, hb, hml, hown, hts, hK, hw, hc1, hc2⟩ := hE
  exact fun H locs ls hP hS hl => lv_astore_n hx hb hd hi hl hn rfl (fun ls' hl' => k H locs ls' hP hS (lv_sub hl' ks hl0))
theorem k_astore (hE : KE w G H0 m cc own nL R) {i : Nat} {x : Nat} (hd : decode cc pc = .ok (.astore i, 2)) (ks : List Nat) (hn : i < nL) (hl0 : lv_pick ((i, Value.ref x) :: lo.filter (fun q => !(q.1 == i) && !(q.1 + 1 == i && q.2.category == 2))) ks = lo') (k : KW w G H0 m nL st (pc + 2) lo' sk) : KW w G H0 m nL st pc lo (.ref x :: sk) := by
  obtain ⟨p, l, e, s, args, below, meth, c, Q, cells, slots, rfl, rfl, hx, hb, hml, hown, hts, hK, hw, hc1, hc2⟩ := hE
  exact fun H locs ls hP hS hl => lv_astore hx hb hd hl hn rfl (fun ls' hl' => k H locs ls' hP hS (lv_sub hl' ks hl0))
theorem k_lstore_n (hE : KE w G H0 m cc own nL R) {j : Fin 4} {i : Nat} {x : Int64} (hd : decode cc pc = .ok (.lstore_n j, 1)) (ks : List Nat) (hi : (j : Nat) = i) (hn : i + 1 < nL) (hl0 : lv_pick ((i, Value.long x) :: lo.filter (fun q => !(q.1 == i) && (!(q.1 == i + 1) && !(q.1 + 1 == i && q.2.category == 2)))) ks = lo') (k : KW w G H0 m nL st (pc + 1) lo' sk) : KW w G H0 m nL st pc lo (.long x :: sk) := by
  obtain ⟨p, l, e, s, args, below, meth, c, Q, cells, slots, rfl, rfl, hx, hb, hml, hown, hts, hK, hw, hc1, hc2⟩ := hE
  exact fun H locs ls hP hS hl => lv_lstore_n hx hb hd hi hl hn rfl (fun ls' hl' => k H locs ls' hP hS (lv_sub hl' ks hl0))
theorem k_lstore (hE : KE w G H0 m cc own nL R) {i : Nat} {x : Int64} (hd : decode cc pc = .ok (.lstore i, 2)) (ks : List Nat) (hn : i + 1 < nL) (hl0 : lv_pick ((i, Value.long x) :: lo.filter (fun q => !(q.1 == i) && (!(q.1 == i + 1) && !(q.1 + 1 == i && q.2.category == 2)))) ks = lo') (k : KW w G H0 m nL st (pc + 2) lo' sk) : KW w G H0 m nL st pc lo (.long x :: sk) := by
  obtain ⟨p, l, e, s, args, below, meth, c, Q, cells, slots, rfl, rfl, hx, hb, hml, hown, hts, hK, hw, hc1, hc2⟩ := hE
  exact fun H locs ls hP hS hl => lv_lstore hx hb hd hl hn rfl (fun ls' hl' => k H locs ls' hP hS (lv_sub hl' ks hl0))
theorem k_iinc (hE : KE w G H0 m cc own nL R) {i : Nat} {n x : Int} (hd : decode cc pc = .ok (.iinc i n, 3)) (q : Nat) (ks : List Nat) (hq : lo[q]? = some (i, .int (iI x))) (hn : i < nL) (hl0 : lv_pick ((i, Value.int (iI (x + n))) :: lo.filter (fun q => !(q.1 == i) && !(q.1 + 1 == i && q.2.category == 2))) ks = lo') (k : KW w G H0 m nL st (pc + 3) lo' sk) : KW w G H0 m nL st pc lo sk := by
  obtain ⟨p, l, e, s, args, below, meth, c, Q, cells, slots, rfl, rfl, hx, hb, hml, hown, hts, hK, hw, hc1, hc2⟩ := hE
  exact fun H locs ls hP hS hl => lv_iinc hx hb hd hl hq (iI_add x n) hn rfl (fun ls' hl' => k H locs ls' hP hS (lv_sub hl' ks hl0))
theorem k_iadd (hE : KE w G H0 m cc own nL R) {x y : Int} (hd : decode cc pc = .ok (.iadd, 1)) (k : KW w G H0 m nL st (pc + 1) lo (.int (iI (x + y)) :: sk)) : KW w G H0 m nL st pc lo (.int (iI y) :: .int (iI x) :: sk) := by
  obtain ⟨p, l, e, s, args, below, meth, c, Q, cells, slots, rfl, rfl, hx, hb, hml, hown, hts, hK, hw, hc1, hc2⟩ := hE
  exact fun H locs ls hP hS hl => lv_iadd hx hb hd (by rw [iI_add]; exact k H locs ls hP hS hl)
theorem k_isub (hE : KE w G H0 m cc own nL R) {x y : Int} (hd : decode cc pc = .ok (.isub, 1)) (k : KW w G H0 m nL st (pc + 1) lo (.int (iI (x - y)) :: sk)) : KW w G H0 m nL st pc lo (.int (iI y) :: .int (iI x) :: sk) := by
  obtain ⟨p, l, e, s, args, below, meth, c, Q, cells, slots, rfl, rfl, hx, hb, hml, hown, hts, hK, hw, hc1, hc2⟩ := hE
  exact fun H locs ls hP hS hl => lv_isub hx hb hd (by rw [iI_sub]; exact k H locs ls hP hS hl)
theorem k_imul (hE : KE w G H0 m cc own nL R) {x y : Int} (hd : decode cc pc = .ok (.imul, 1)) (k : KW w G H0 m nL st (pc + 1) lo (.int (iI (x * y)) :: sk)) : KW w G H0 m nL st pc lo (.int (iI y) :: .int (iI x) :: sk) := by
  obtain ⟨p, l, e, s, args, below, meth, c, Q, cells, slots, rfl, rfl, hx, hb, hml, hown, hts, hK, hw, hc1, hc2⟩ := hE
  exact fun H locs ls hP hS hl => lv_imul hx hb hd (by rw [iI_mul]; exact k H locs ls hP hS hl)
theorem k_idiv (hE : KE w G H0 m cc own nL R) {x y : Int} (hd : decode cc pc = .ok (.idiv, 1)) (hxr : in32 x) (hyr : in32 y) (h0 : 0 < y) (k : KW w G H0 m nL st (pc + 1) lo (.int (iI (x.tdiv y)) :: sk)) : KW w G H0 m nL st pc lo (.int (iI y) :: .int (iI x) :: sk) := by
  obtain ⟨p, l, e, s, args, below, meth, c, Q, cells, slots, rfl, rfl, hx, hb, hml, hown, hts, hK, hw, hc1, hc2⟩ := hE
  exact fun H locs ls hP hS hl => lv_idiv hx hb hd (fun h => by rw [iI_0, iI_eq hyr in32_0] at h; omega) (by rw [iI_div hxr hyr h0]; exact k H locs ls hP hS hl)
theorem k_irem (hE : KE w G H0 m cc own nL R) {x y : Int} (hd : decode cc pc = .ok (.irem, 1)) (hxr : in32 x) (hyr : in32 y) (h0 : 0 < y) (k : KW w G H0 m nL st (pc + 1) lo (.int (iI (x - x.tdiv y * y)) :: sk)) : KW w G H0 m nL st pc lo (.int (iI y) :: .int (iI x) :: sk) := by
  obtain ⟨p, l, e, s, args, below, meth, c, Q, cells, slots, rfl, rfl, hx, hb, hml, hown, hts, hK, hw, hc1, hc2⟩ := hE
  exact fun H locs ls hP hS hl => lv_irem hx hb hd (fun h => by rw [iI_0, iI_eq hyr in32_0] at h; omega) (by rw [iI_div hxr hyr h0, iI_mul, iI_sub]; exact k H locs ls hP hS hl)
theorem k_goto (hE : KE w G H0 m cc own nL R) {off : Int} (tgt : Nat) (hd : decode cc pc = .ok (.goto off, 3)) (ht : (pc : Int) + off = (tgt : Int)) (k : KW w G H0 m nL st tgt lo sk) : KW w G H0 m nL st pc lo sk := by
  obtain ⟨p, l, e, s, args, below, meth, c, Q, cells, slots, rfl, rfl, hx, hb, hml, hown, hts, hK, hw, hc1, hc2⟩ := hE
  exact fun H locs ls hP hS hl => lv_goto hx hb hd ht (k H locs ls hP hS hl)
theorem k_dup (hE : KE w G H0 m cc own nL R) {v : Value} (hd : decode cc pc = .ok (.dup, 1)) (hv : v.category = 1) (k : KW w G H0 m nL st (pc + 1) lo (v :: v :: sk)) : KW w G H0 m nL st pc lo (v :: sk) := by
  obtain ⟨p, l, e, s, args, below, meth, c, Q, cells, slots, rfl, rfl, hx, hb, hml, hown, hts, hK, hw, hc1, hc2⟩ := hE
  exact fun H locs ls hP hS hl => lv_dup hx hb hd hv (k H locs ls hP hS hl)
end KROWS
