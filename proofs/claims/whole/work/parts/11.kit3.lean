def in62 (z : Int) : Prop := -4611686018427387904 ≤ z ∧ z < 4611686018427387904
theorem jI_val {z : Int} (h : in62 z) : (jI z).toInt = z := Int64.toInt_ofInt_of_le (by have := h.1; omega) (by have := h.2; omega)
theorem jI_add (a b : Int) : jI a + jI b = jI (a + b) := (Int64.ofInt_add a b).symm
theorem jI_sub (a b : Int) : jI a - jI b = jI (a - b) := (Int64.ofInt_sub a b).symm
theorem jI_mul (a b : Int) : jI a * jI b = jI (a * b) := (Int64.ofInt_mul a b).symm
theorem jI_eq {a b : Int} (ha : in62 a) (hb : in62 b) : jI a = jI b ↔ a = b := by
  rw [← Int64.toInt_inj, jI_val ha, jI_val hb]
theorem jI_lt {a b : Int} (ha : in62 a) (hb : in62 b) : jI a < jI b ↔ a < b := by
  rw [Int64.lt_iff_toInt_lt, jI_val ha, jI_val hb]
theorem in62_0 : in62 0 := by unfold in62; omega
theorem jI_div {a b : Int} (ha : in62 a) (hb : in62 b) (h : 0 < b) : jI a / jI b = jI (a.tdiv b) := by
  refine (Int64.ofInt_tdiv ?_ ?_ ?_ ?_).symm
  · have := ha.1; exact Int.le_trans (by decide) this
  · have := ha.2; exact Int.le_trans (Int.le_of_lt this) (by decide)
  · have := hb.1; exact Int.le_trans (by decide) this
  · have := hb.2; exact Int.le_trans (Int.le_of_lt this) (by decide)
theorem iI_long {x : Int} (h : in32 x) : (iI x).toInt64 = jI x := by
  rw [← Int64.toInt_inj, Int32.toInt_toInt64, iI_val h.1 h.2, jI_val (by unfold in62; have := h.1; have := h.2; omega)]
theorem lcmp_is {x y : Int} (hx : in62 x) (hy : in62 y) : ∃ z : Int, lg_cmp (jI x) (jI y) = iI z ∧ ((z = 1 ∧ y < x) ∨ (z = 0 ∧ x = y) ∨ (z = -1 ∧ x < y)) := by
  unfold lg_cmp
  by_cases h : y < x
  · exact ⟨1, by rw [if_pos ((jI_lt hy hx).mpr h)]; rfl, Or.inl ⟨rfl, h⟩⟩
  · rw [if_neg (fun h2 => h ((jI_lt hy hx).mp h2))]
    by_cases h3 : x = y
    · exact ⟨0, by rw [if_pos ((jI_eq hx hy).mpr h3)]; rfl, Or.inr (Or.inl ⟨rfl, h3⟩)⟩
    · exact ⟨-1, by rw [if_neg (fun h2 => h3 ((jI_eq hx hy).mp h2))]; rfl, Or.inr (Or.inr ⟨rfl, by omega⟩)⟩
def zand (x y : Int) : Int := (iI x &&& iI y).toInt
def zor (x y : Int) : Int := (iI x ||| iI y).toInt
def zshl (x y : Int) : Int := (iI x <<< (iI y &&& 31)).toInt
def zshr (x y : Int) : Int := (iI x >>> (iI y &&& 31)).toInt
def b8 (x : Int) : Int := (iI x).toInt8.toInt32.toInt
def s16 (x : Int) : Int := (iI x).toInt16.toInt32.toInt
theorem zand_in (x y : Int) : in32 (zand x y) := iI_rng _
theorem zor_in (x y : Int) : in32 (zor x y) := iI_rng _
theorem zshl_in (x y : Int) : in32 (zshl x y) := iI_rng _
theorem zshr_in (x y : Int) : in32 (zshr x y) := iI_rng _
theorem ret_i {a b : Int} (h : a = b) : some (Value.int (iI a)) = some (Value.int (iI b)) := by rw [h]
theorem ret_l {a b : Int} (h : a = b) : some (Value.long (jI a)) = some (Value.long (jI b)) := by rw [h]
section KROWS3
variable {σ : Type} {w : WD σ} {G : Heap → List Loc → JFrame → Prop} {H0 : Heap} {m : MethodId} {cc : ByteArray} {own : String} {nL : Nat} {R : Room} {st : σ} {pc : Nat} {lo lo' : List (Nat × Value)} {sk : List Value}

theorem k_iand (hE : KE w G H0 m cc own nL R) {x y : Int} (hd : decode cc pc = .ok (.iand, 1)) (k : KW w G H0 m nL st (pc + 1) lo (.int (iI (zand x y)) :: sk)) : KW w G H0 m nL st pc lo (.int (iI y) :: .int (iI x) :: sk) := by
  obtain ⟨p, l, e, s, args, below, meth, c, Q, cells, slots, rfl, rfl, hx, hb, hml, hown, hts, hK, hw, hc1, hc2⟩ := hE
  exact fun H locs ls hP hS hl => lv_iand hx hb hd (by have h1 := k H locs ls hP hS hl; unfold zand at h1; rw [iI_toInt] at h1; exact h1)

theorem k_ior (hE : KE w G H0 m cc own nL R) {x y : Int} (hd : decode cc pc = .ok (.ior, 1)) (k : KW w G H0 m nL st (pc + 1) lo (.int (iI (zor x y)) :: sk)) : KW w G H0 m nL st pc lo (.int (iI y) :: .int (iI x) :: sk) := by
  obtain ⟨p, l, e, s, args, below, meth, c, Q, cells, slots, rfl, rfl, hx, hb, hml, hown, hts, hK, hw, hc1, hc2⟩ := hE
  exact fun H locs ls hP hS hl => lv_ior hx hb hd (by have h1 := k H locs ls hP hS hl; unfold zor at h1; rw [iI_toInt] at h1; exact h1)

theorem k_ishl (hE : KE w G H0 m cc own nL R) {x y : Int} (hd : decode cc pc = .ok (.ishl, 1)) (k : KW w G H0 m nL st (pc + 1) lo (.int (iI (zshl x y)) :: sk)) : KW w G H0 m nL st pc lo (.int (iI y) :: .int (iI x) :: sk) := by
  obtain ⟨p, l, e, s, args, below, meth, c, Q, cells, slots, rfl, rfl, hx, hb, hml, hown, hts, hK, hw, hc1, hc2⟩ := hE
  exact fun H locs ls hP hS hl => lv_ishl hx hb hd (by have h1 := k H locs ls hP hS hl; unfold zshl at h1; rw [iI_toInt] at h1; exact h1)

theorem k_ishr (hE : KE w G H0 m cc own nL R) {x y : Int} (hd : decode cc pc = .ok (.ishr, 1)) (k : KW w G H0 m nL st (pc + 1) lo (.int (iI (zshr x y)) :: sk)) : KW w G H0 m nL st pc lo (.int (iI y) :: .int (iI x) :: sk) := by
  obtain ⟨p, l, e, s, args, below, meth, c, Q, cells, slots, rfl, rfl, hx, hb, hml, hown, hts, hK, hw, hc1, hc2⟩ := hE
  exact fun H locs ls hP hS hl => lv_ishr hx hb hd (by have h1 := k H locs ls hP hS hl; unfold zshr at h1; rw [iI_toInt] at h1; exact h1)

theorem k_i2b (hE : KE w G H0 m cc own nL R) {x : Int} (hd : decode cc pc = .ok (.i2b, 1)) (k : KW w G H0 m nL st (pc + 1) lo (.int (iI (b8 x)) :: sk)) : KW w G H0 m nL st pc lo (.int (iI x) :: sk) := by
  obtain ⟨p, l, e, s, args, below, meth, c, Q, cells, slots, rfl, rfl, hx, hb, hml, hown, hts, hK, hw, hc1, hc2⟩ := hE
  exact fun H locs ls hP hS hl => lv_i2b hx hb hd rfl (by have h1 := k H locs ls hP hS hl; unfold b8 at h1; rw [iI_toInt] at h1; exact h1)

theorem k_i2s (hE : KE w G H0 m cc own nL R) {x : Int} (hd : decode cc pc = .ok (.i2s, 1)) (k : KW w G H0 m nL st (pc + 1) lo (.int (iI (s16 x)) :: sk)) : KW w G H0 m nL st pc lo (.int (iI x) :: sk) := by
  obtain ⟨p, l, e, s, args, below, meth, c, Q, cells, slots, rfl, rfl, hx, hb, hml, hown, hts, hK, hw, hc1, hc2⟩ := hE
  exact fun H locs ls hP hS hl => lv_i2s hx hb hd rfl (by have h1 := k H locs ls hP hS hl; unfold s16 at h1; rw [iI_toInt] at h1; exact h1)

theorem k_idivN (hE : KE w G H0 m cc own nL R) {x y : Int} (hd : decode cc pc = .ok (.idiv, 1)) (hxr : in32 x) (hyr : in32 y) (h0 : 0 < y) (hx0 : 0 ≤ x) (k : KW w G H0 m nL st (pc + 1) lo (.int (iI (x / y)) :: sk)) : KW w G H0 m nL st pc lo (.int (iI y) :: .int (iI x) :: sk) :=
  k_idiv hE hd hxr hyr h0 (by rw [Int.tdiv_eq_ediv_of_nonneg hx0]; exact k)
theorem k_iremN (hE : KE w G H0 m cc own nL R) {x y : Int} (hd : decode cc pc = .ok (.irem, 1)) (hxr : in32 x) (hyr : in32 y) (h0 : 0 < y) (hx0 : 0 ≤ x) (k : KW w G H0 m nL st (pc + 1) lo (.int (iI (x % y)) :: sk)) : KW w G H0 m nL st pc lo (.int (iI y) :: .int (iI x) :: sk) :=
  k_irem hE hd hxr hyr h0 (by rw [Int.tdiv_eq_ediv_of_nonneg hx0, Int.mul_comm, ← Int.emod_def]; exact k)
theorem k_i2l (hE : KE w G H0 m cc own nL R) {x : Int} (hd : decode cc pc = .ok (.i2l, 1)) (hxr : in32 x) (k : KW w G H0 m nL st (pc + 1) lo (.long (jI x) :: sk)) : KW w G H0 m nL st pc lo (.int (iI x) :: sk) := by
  obtain ⟨p, l, e, s, args, below, meth, c, Q, cells, slots, rfl, rfl, hx, hb, hml, hown, hts, hK, hw, hc1, hc2⟩ := hE
  exact fun H locs ls hP hS hl => lv_i2l hx hb hd (iI_long hxr) (k H locs ls hP hS hl)
theorem k_lconst0 (hE : KE w G H0 m cc own nL R) (hd : decode cc pc = .ok (.lconst 0, 1)) (k : KW w G H0 m nL st (pc + 1) lo (.long (jI 0) :: sk)) : KW w G H0 m nL st pc lo sk := by
  obtain ⟨p, l, e, s, args, below, meth, c, Q, cells, slots, rfl, rfl, hx, hb, hml, hown, hts, hK, hw, hc1, hc2⟩ := hE
  exact fun H locs ls hP hS hl => lv_lconst hx hb hd rfl (k H locs ls hP hS hl)
theorem k_lconst1 (hE : KE w G H0 m cc own nL R) (hd : decode cc pc = .ok (.lconst 1, 1)) (k : KW w G H0 m nL st (pc + 1) lo (.long (jI 1) :: sk)) : KW w G H0 m nL st pc lo sk := by
  obtain ⟨p, l, e, s, args, below, meth, c, Q, cells, slots, rfl, rfl, hx, hb, hml, hown, hts, hK, hw, hc1, hc2⟩ := hE
  exact fun H locs ls hP hS hl => lv_lconst hx hb hd rfl (k H locs ls hP hS hl)
theorem k_ladd (hE : KE w G H0 m cc own nL R) {x y : Int} (hd : decode cc pc = .ok (.ladd, 1)) (k : KW w G H0 m nL st (pc + 1) lo (.long (jI (x + y)) :: sk)) : KW w G H0 m nL st pc lo (.long (jI y) :: .long (jI x) :: sk) := by
  obtain ⟨p, l, e, s, args, below, meth, c, Q, cells, slots, rfl, rfl, hx, hb, hml, hown, hts, hK, hw, hc1, hc2⟩ := hE
  exact fun H locs ls hP hS hl => lv_ladd hx hb hd (by rw [jI_add]; exact k H locs ls hP hS hl)
theorem k_lmul (hE : KE w G H0 m cc own nL R) {x y : Int} (hd : decode cc pc = .ok (.lmul, 1)) (k : KW w G H0 m nL st (pc + 1) lo (.long (jI (x * y)) :: sk)) : KW w G H0 m nL st pc lo (.long (jI y) :: .long (jI x) :: sk) := by
  obtain ⟨p, l, e, s, args, below, meth, c, Q, cells, slots, rfl, rfl, hx, hb, hml, hown, hts, hK, hw, hc1, hc2⟩ := hE
  exact fun H locs ls hP hS hl => lv_lmul hx hb hd (by rw [jI_mul]; exact k H locs ls hP hS hl)
theorem k_ldiv (hE : KE w G H0 m cc own nL R) {x y : Int} (hd : decode cc pc = .ok (.ldiv, 1)) (hxr : in62 x) (hyr : in62 y) (h0 : 0 < y) (k : KW w G H0 m nL st (pc + 1) lo (.long (jI (x.tdiv y)) :: sk)) : KW w G H0 m nL st pc lo (.long (jI y) :: .long (jI x) :: sk) := by
  obtain ⟨p, l, e, s, args, below, meth, c, Q, cells, slots, rfl, rfl, hx, hb, hml, hown, hts, hK, hw, hc1, hc2⟩ := hE
  exact fun H locs ls hP hS hl => lv_ldiv hx hb hd (fun h => by rw [show (0 : Int64) = jI 0 from rfl, jI_eq hyr in62_0] at h; omega) (by rw [jI_div hxr hyr h0]; exact k H locs ls hP hS hl)
theorem k_lrem (hE : KE w G H0 m cc own nL R) {x y : Int} (hd : decode cc pc = .ok (.lrem, 1)) (hxr : in62 x) (hyr : in62 y) (h0 : 0 < y) (k : KW w G H0 m nL st (pc + 1) lo (.long (jI (x - x.tdiv y * y)) :: sk)) : KW w G H0 m nL st pc lo (.long (jI y) :: .long (jI x) :: sk) := by
  obtain ⟨p, l, e, s, args, below, meth, c, Q, cells, slots, rfl, rfl, hx, hb, hml, hown, hts, hK, hw, hc1, hc2⟩ := hE
  exact fun H locs ls hP hS hl => lv_lrem hx hb hd (fun h => by rw [show (0 : Int64) = jI 0 from rfl, jI_eq hyr in62_0] at h; omega) (by rw [jI_div hxr hyr h0, jI_mul, jI_sub]; exact k H locs ls hP hS hl)
theorem k_ldivN (hE : KE w G H0 m cc own nL R) {x y : Int} (hd : decode cc pc = .ok (.ldiv, 1)) (hxr : in62 x) (hyr : in62 y) (h0 : 0 < y) (hx0 : 0 ≤ x) (k : KW w G H0 m nL st (pc + 1) lo (.long (jI (x / y)) :: sk)) : KW w G H0 m nL st pc lo (.long (jI y) :: .long (jI x) :: sk) :=
  k_ldiv hE hd hxr hyr h0 (by rw [Int.tdiv_eq_ediv_of_nonneg hx0]; exact k)
theorem k_lremN (hE : KE w G H0 m cc own nL R) {x y : Int} (hd : decode cc pc = .ok (.lrem, 1)) (hxr : in62 x) (hyr : in62 y) (h0 : 0 < y) (hx0 : 0 ≤ x) (k : KW w G H0 m nL st (pc + 1) lo (.long (jI (x % y)) :: sk)) : KW w G H0 m nL st pc lo (.long (jI y) :: .long (jI x) :: sk) :=
  k_lrem hE hd hxr hyr h0 (by rw [Int.tdiv_eq_ediv_of_nonneg hx0, Int.mul_comm, ← Int.emod_def]; exact k)
theorem k_lcmp (hE : KE w G H0 m cc own nL R) {x y : Int} (hd : decode cc pc = .ok (.lcmp, 1)) (hxr : in62 x) (hyr : in62 y) (k : ∀ z : Int, ((z = 1 ∧ y < x) ∨ (z = 0 ∧ x = y) ∨ (z = -1 ∧ x < y)) → KW w G H0 m nL st (pc + 1) lo (.int (iI z) :: sk)) : KW w G H0 m nL st pc lo (.long (jI y) :: .long (jI x) :: sk) := by
  obtain ⟨p, l, e, s, args, below, meth, c, Q, cells, slots, rfl, rfl, hx, hb, hml, hown, hts, hK, hw, hc1, hc2⟩ := hE
  obtain ⟨z, e1, h1⟩ := lcmp_is hxr hyr
  exact fun H locs ls hP hS hl => W.lcmp hx hb hd (by rw [e1]; exact k z h1 H locs ls hP hS hl)
theorem k_ldc2 (hE : KE w G H0 m cc own nL R) {idx : Nat} {v : Int64} (hl : Cond.constantLong own idx v ∈ lw_gt) (hd : decode cc pc = .ok (.ldc2_w idx, 3)) (k : KW w G H0 m nL st (pc + 3) lo (.long v :: sk)) : KW w G H0 m nL st pc lo sk := by
  obtain ⟨p, l, e, s, args, below, meth, c, Q, cells, slots, rfl, rfl, hx, hb, hml, hown, hts, hK, hw, hc1, hc2⟩ := hE
  exact fun H locs ls hP hS hl0 => lv_ldc2 hx hb hown (hts _ hl) hd (k H locs ls hP hS hl0)
theorem k_tabOut (hE : KE w G H0 m cc own nL R) {dflt a b : Int} {offs : Array Int} {len : Nat} {x : Int} (tgt : Nat) (hd : decode cc pc = .ok (.tableswitch dflt a b offs, len)) (hxr : in32 x) (h : x < a ∨ b < x) (ht : (pc : Int) + dflt = (tgt : Int)) (k : KW w G H0 m nL st tgt lo sk) : KW w G H0 m nL st pc lo (.int (iI x) :: sk) := by
  obtain ⟨p, l, e, s, args, below, meth, c, Q, cells, slots, rfl, rfl, hx, hb, hml, hown, hts, hK, hw, hc1, hc2⟩ := hE
  exact fun H locs ls hP hS hl => lv_tableOut hx hb hd (by rw [iI_val hxr.1 hxr.2]; exact h) ht (k H locs ls hP hS hl)
theorem k_tabIn (hE : KE w G H0 m cc own nL R) {dflt a b : Int} {offs : Array Int} {len : Nat} {x off : Int} (tgt : Nat) (y : Int) (hd : decode cc pc = .ok (.tableswitch dflt a b offs, len)) (hxy : x = y) (h1 : ¬ (iI y).toInt < a) (h2 : ¬ b < (iI y).toInt) (ho : offs[((iI y).toInt - a).toNat]? = some off) (ht : (pc : Int) + off = (tgt : Int)) (k : KW w G H0 m nL st tgt lo sk) : KW w G H0 m nL st pc lo (.int (iI x) :: sk) := by
  obtain ⟨p, l, e, s, args, below, meth, c, Q, cells, slots, rfl, rfl, hx, hb, hml, hown, hts, hK, hw, hc1, hc2⟩ := hE
  subst hxy
  exact fun H locs ls hP hS hl => lv_tableIn hx hb hd h1 h2 ho ht (k H locs ls hP hS hl)
theorem k_lookup (hE : KE w G H0 m cc own nL R) {dflt : Int} {ps : Array (Int × Int)} {len : Nat} {x off : Int} (tgt : Nat) (hd : decode cc pc = .ok (.lookupswitch dflt ps, len)) (hp : (ps.toList.zip (ps.toList.drop 1)).all (fun (a, next) => a.1 < next.1) = true) (ho : Op.lookupswitch.offset ps.toList dflt (iI x).toInt = off) (ht : (pc : Int) + off = (tgt : Int)) (k : KW w G H0 m nL st tgt lo sk) : KW w G H0 m nL st pc lo (.int (iI x) :: sk) := by
  obtain ⟨p, l, e, s, args, below, meth, c, Q, cells, slots, rfl, rfl, hx, hb, hml, hown, hts, hK, hw, hc1, hc2⟩ := hE
  exact fun H locs ls hP hS hl => lv_lookup hx hb hd hp ho ht (k H locs ls hP hS hl)
theorem nar_b {z : Int} (h : z = 0 ∨ z = 1) : narrow .boolean (.int (iI z)) = .int (iI z) := by rcases h with rfl | rfl <;> rfl
theorem cl_X6_167 : Cond.constantLong RX6 167 (-9223372036854775808) ∈ lw_gt := gt_mem (by decide +kernel) rfl
theorem cl_X7_72 : Cond.constantLong RX7 72 (-9223372036854775808) ∈ lw_gt := gt_mem (by decide +kernel) rfl
end KROWS3

/-! the yard in numbers: v 0 taps, 1 cap, 2 per, 3 first, 4 law, 5 leak's height, 6 its pails, 7 marks; r 0 kind, 1 height, 2 need, 3 speed, 4 rain, 5 mark's day, 6 mark's level -/
def Ag (st Y : Sg) : Prop := (∀ i, i < 8 → st.1 i = Y.1 i) ∧ (∀ a, a < 7 → st.2 a = Y.2 a)
theorem Ag.refl (st : Sg) : Ag st st := ⟨fun _ _ => rfl, fun _ _ => rfl⟩
theorem Ag.symm {a b : Sg} (h : Ag a b) : Ag b a := ⟨fun i hi => (h.1 i hi).symm, fun i hi => (h.2 i hi).symm⟩
theorem Ag.trans {a b c : Sg} (h : Ag a b) (h2 : Ag b c) : Ag a c := ⟨fun i hi => (h.1 i hi).trans (h2.1 i hi), fun i hi => (h.2 i hi).trans (h2.2 i hi)⟩
theorem Ag.upv {st Y : Sg} (h : Ag st Y) {k : Nat} (hk : 8 ≤ k) (z : Int) : Ag (uv st.1 k z, st.2) Y := ⟨fun i hi => by show uv st.1 k z i = _; rw [uv_n _ _ (by omega)]; exact h.1 i hi, h.2⟩
theorem Ag.upr {st Y : Sg} (h : Ag st Y) {k : Nat} (hk : 7 ≤ k) (i z : Int) : Ag (st.1, ur st.2 k i z) Y := ⟨h.1, fun a ha => by show ur st.2 k i z a = _; rw [ur_n _ _ _ (by omega)]; exact h.2 a ha⟩
def Inv (Y : Sg) : Prop := (0 ≤ Y.1 0 ∧ Y.1 0 ≤ 6) ∧ (0 ≤ Y.1 1 ∧ Y.1 1 ≤ 99) ∧ (0 ≤ Y.1 2 ∧ Y.1 2 ≤ 9) ∧ (0 ≤ Y.1 3 ∧ Y.1 3 ≤ Y.1 1) ∧ (0 ≤ Y.1 4 ∧ Y.1 4 ≤ 2) ∧ (0 ≤ Y.1 5 ∧ Y.1 5 ≤ 9) ∧ (0 ≤ Y.1 6 ∧ Y.1 6 ≤ 9) ∧ (0 ≤ Y.1 7 ∧ Y.1 7 ≤ 8)
  ∧ (∀ f : Int, 0 ≤ f → f < 6 → (0 ≤ Y.2 0 f ∧ Y.2 0 f ≤ 2) ∧ (0 ≤ Y.2 1 f ∧ Y.2 1 f ≤ 9) ∧ (0 ≤ Y.2 2 f ∧ Y.2 2 f ≤ 9) ∧ (0 ≤ Y.2 3 f ∧ Y.2 3 f ≤ 9))
  ∧ (∀ d : Int, 0 ≤ d → d < 10 → 0 ≤ Y.2 4 d ∧ Y.2 4 d ≤ 99)
  ∧ (∀ k : Int, 0 ≤ k → k < 8 → (0 ≤ Y.2 5 k ∧ Y.2 5 k ≤ 10) ∧ (0 ≤ Y.2 6 k ∧ Y.2 6 k ≤ 99))
  ∧ (∀ f : Int, 0 ≤ f → f < Y.1 0 → 1 ≤ Y.2 2 f ∧ 1 ≤ Y.2 3 f)
/-- wants -/
def WN (Y : Sg) (f : Int) : Int := if Y.2 0 f = 2 then Y.2 2 f + Y.2 2 f / 2 + 1 else if Y.2 0 f = 1 then Y.2 2 f + Y.2 2 f / 2 else Y.2 2 f
/-- what a tap gives -/
def GV (Y : Sg) (f w : Int) : Int := max 0 (w - Y.2 1 f * Y.1 2)
theorem mul99 {a b : Int} (h : 0 ≤ a ∧ a ≤ 9) (h2 : 0 ≤ b ∧ b ≤ 9) : 0 ≤ a * b ∧ a * b ≤ 81 := by
  refine ⟨Int.mul_nonneg h.1 h2.1, ?_⟩
  have := Int.mul_le_mul h.2 h2.2 h2.1 (by omega : (0 : Int) ≤ 9)
  omega
theorem WN_rng {Y : Sg} (hI : Inv Y) {f : Int} (h0 : 0 ≤ f) (h1 : f < 6) : 0 ≤ WN Y f ∧ WN Y f ≤ 14 ∧ Y.2 2 f ≤ WN Y f := by
  obtain ⟨-, -, -, -, -, -, -, -, ht, -⟩ := hI
  have := ht f h0 h1
  unfold WN
  split <;> (try split) <;> omega
theorem tdiv2 {a : Int} (h : 0 ≤ a) : Int.tdiv a 2 = a / 2 := Int.tdiv_eq_ediv_of_nonneg h

